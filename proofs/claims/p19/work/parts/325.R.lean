def rm_s11_seen : Room := { frames := 2, cells := 0, slots := 0, locals := 45 }
set_option maxHeartbeats 4000000 in
set_option maxRecDepth 100000 in
theorem s11_seen (l : Launch) (dC : Nat → ClassId) (dI : Nat → Nat → Nat) (kB kI kJ kZ kC kS : ClassId) (sz : Nat) (m0 : Nat) (ra : Nat → Nat) (x0 : Nat → Int32) (q_told : Nat → Int32) (q_now : Nat → Int32) (p0 : Int32) (p1 : Int32) (p2 : Int32) (hX : fI lX11 hX11 x0) (hq_told : fI lTold hTold q_told) (hq_now : fI lNow hNow q_now) : Met l yX11_seen wsX11_seen rm_s11_seen (va_Pc [.ref m0, .int p0, .int p1, .int p2] (fun U => U.heap.size = sz ∧ va_P (dC, dI) vwCl [(m0, .inr (11, oX11 ra x0)), (ra 2, .inl (kI, 8, .inl q_told)), (ra 11, .inl (kI, 1019, .inl q_now))] U.heap ∧ kE dC dI kB kI kJ kZ kC kS U ∧ va_D (fun _ => True) [(m0, .inr (11, oX11 ra x0)), (ra 2, .inl (kI, 8, .inl q_told)), (ra 11, .inl (kI, 1019, .inl q_now))])) (va_Qi (fun (r : Int32) (_ : Unit) => iv (-1) 20 r) (fun _ t => ∃ (x0' : Nat → Int32), fI lX11 hX11 x0' ∧ (x0' 1 = x0 1) ∧ (x0' 10 = x0 10) ∧ (x0' 11 = x0 11) ∧ (x0' 14 = x0 14) ∧ va_P (dC, dI) vwCl [(m0, .inr (11, oX11 ra x0')), (ra 2, .inl (kI, 8, .inl q_told)), (ra 11, .inl (kI, 1019, .inl q_now))] t.heap ∧ va_D (va_A [(m0, .inr (11, oX11 ra x0)), (ra 2, .inl (kI, 8, .inl q_told)), (ra 11, .inl (kI, 1019, .inl q_now))] sz) [(m0, .inr (11, oX11 ra x0')), (ra 2, .inl (kI, 8, .inl q_told)), (ra 11, .inl (kI, 1019, .inl q_now))]) (va_A [(m0, .inr (11, oX11 ra x0)), (ra 2, .inl (kI, 8, .inl q_told)), (ra 11, .inl (kI, 1019, .inl q_now))] sz)) 0 0 (va_A [(m0, .inr (11, oX11 ra x0)), (ra 2, .inl (kI, 8, .inl q_told)), (ra 11, .inl (kI, 1019, .inl q_now))] sz) := by
  refine Met.ofW (cc := cX11_seen) (maxL := 4) (ret := (some .int)) (by decide) rfl ?_
  intro p e s m args0 below meth c s₁ B hml hv
  obtain ⟨hargs, hsz, hP, hE, hD0⟩ := hv
  have hx := B.exec
  have hb := B.bytes
  have hr := B.returns
  have hts := atoms_spec (ws := wsX11_seen) B.pre
  have hown : s.vm.findClass RX11 = some m.cls := findClass_of_methodNamed B.named
  have hlocks := B.notSynchronized
  have hK := hE.1
  have hin11 : ∀ w ∈ wsX110, w ∈ wsX11_seen := fun _ h9 => List.mem_cons_of_mem _ (List.mem_append_right _ h9)
  have hw_0 := hts (.fieldLink RX11 142 "PathProberModel" "code" "I") (List.mem_of_getElem? (i := 1) rfl)
  subst hsz
  have hD := hD0.self (sz := s.heap.size)
  generalize hAe : va_A [(m0, .inr (11, oX11 ra x0)), (ra 2, .inl (kI, 8, .inl q_told)), (ra 11, .inl (kI, 1019, .inl q_now))] s.heap.size = A at hD ⊢
  have hA : ∀ q : Nat, s.heap.size ≤ q → A q := fun q h => by rw [← hAe]; exact Or.inr h
  have hS : va_S A s.heap s.heap [] := va_S.rf
  have hP : va_P (dC, dI) vwCl [(m0, .inr (11, oX11 ra x0)), (ra 2, .inl (kI, 8, .inl q_told)), (ra 11, .inl (kI, 1019, .inl q_now))] s.heap := hP
  have hl := lv_entry ([.ref m0, .int p0, .int p1, .int p2]) (n := 4) (Nat.le_of_ble_eq_true rfl)
  have hla : entryFrame m args0 4 = entryFrame m ([.ref m0, .int p0, .int p1, .int p2] : List Value).toArray 4 := by rw [hargs]
  rw [hla, lg_entry_eq]
  generalize (lg_sl ([.ref m0, .int p0, .int p1, .int p2]) ++ List.replicate (4 - (lg_sl ([.ref m0, .int p0, .int p1, .int p2])).length) Slot.unset).toArray = ls at hl ⊢
  have hl : lv_has ls 4 [(0, .ref m0), (1, .int p0), (2, .int p1), (3, .int p2)] := hl
  have hJ37 : ∀ (y37_0 : Nat → Int32) (H : Heap) (locs : List Loc) (ls : Array Slot), fI lX11 hX11 y37_0 → iv 0 0 (y37_0 0) → (y37_0 1 = x0 1) → (y37_0 10 = x0 10) → (y37_0 11 = x0 11) → (y37_0 14 = x0 14) → va_P (dC, dI) vwCl [(m0, .inr (11, oX11 ra y37_0)), (ra 2, .inl (kI, 8, .inl q_told)), (ra 11, .inl (kI, 1019, .inl q_now))] H → va_D A [(m0, .inr (11, oX11 ra y37_0)), (ra 2, .inl (kI, 8, .inl q_told)), (ra 11, .inl (kI, 1019, .inl q_now))] → va_S A s.heap H locs → lv_has ls 4 [(0, .ref m0), (1, .int p0), (2, .int p1), (3, .int p2)] → W p l e (headSpec wsX11_seen rm_s11_seen).room s m args0 below meth c H locs (0) (0) (MQ below (va_Qi (fun (r : Int32) (_ : Unit) => iv (-1) 20 r) (fun _ t => ∃ (x0' : Nat → Int32), fI lX11 hX11 x0' ∧ (x0' 1 = x0 1) ∧ (x0' 10 = x0 10) ∧ (x0' 11 = x0 11) ∧ (x0' 14 = x0 14) ∧ va_P (dC, dI) vwCl [(m0, .inr (11, oX11 ra x0')), (ra 2, .inl (kI, 8, .inl q_told)), (ra 11, .inl (kI, 1019, .inl q_now))] t.heap ∧ va_D A [(m0, .inr (11, oX11 ra x0')), (ra 2, .inl (kI, 8, .inl q_told)), (ra 11, .inl (kI, 1019, .inl q_now))]) A) args0 s 0 0 A) (F0 m 37 ls []) := by
    intro y37_0 H locs ls hI37_0 h37_2 htp_37 hfp_37 hor_37 hirl_37 hP hD hS hl
    refine lv_aload_n hx hb dX11_seen_37 rfl (lv_at hl 0 rfl) ?_
    refine lv_iconst (v := 1) hx hb dX11_seen_38 ic_1 ?_
    obtain ⟨hPc, hDc, hFc, hJn⟩ := cl_a (wc := [(m0, .inr (11, oX11 ra y37_0))]) (wr := [(ra 2, .inl (kI, 8, .inl q_told)), (ra 11, .inl (kI, 1019, .inl q_now))]) hP hD hS hA [0] [1, 2] rfl rfl (by decide +kernel)
    refine va_calli (va_runV (As := [.int 1]) (rest := []) ⟨hx, hb, hml, hown, hts⟩ (s11_fail l dC dI kB kI kJ kZ kC kS H.size m0 ra y37_0 1 (hI37_0)) (cwV 1 hts gX11_seen_X11_fail rfl rfl rfl (by decide +kernel) ⟨Nat.le_of_ble_eq_true rfl, Nat.le_of_ble_eq_true rfl⟩) ⟨fun a U g mk q => by obtain ⟨q0, q1, qP, qE, qD⟩ := q; exact ⟨q0, q1, qP, kE_call qE, qD⟩, va_recv hK hP (ci := 11) (q0 := 0) rfl rfl, fun U hU hW => ⟨rfl, by rw [hU], by rw [hU]; exact hPc, kE_warm hW hE, hDc.weaken (fun _ _ _ _ => trivial)⟩⟩ rfl rfl hl.1 rfl (lv_room (Nat.le_of_ble_eq_true rfl)) dX11_seen_39 ⟨Nat.le_of_ble_eq_true rfl, Nat.le_of_ble_eq_true rfl⟩) hS (fun q _ h => hFc q h) hFc (fun r1 u t H locs ht hvm w2 hB hz1 hk1 hS => ?_)
    obtain ⟨y3, hq4, hq5, hq6, hq7, hq8, hq9, hP1, hD1⟩ := hB
    try dsimp only at w2
    obtain ⟨hPa, hDa⟩ := hJn (w1 := [(m0, .inr (11, oX11 ra y3))]) hk1 ht hP1 hD1
    clear hP hD hPc hDc hFc hJn hP1 hD1 hk1
    have hP : va_P (dC, dI) vwCl [(ra 2, .inl (kI, 8, .inl q_told)), (ra 11, .inl (kI, 1019, .inl q_now)), (m0, .inr (11, oX11 ra y3))] H := hPa
    have hD : va_D A [(ra 2, .inl (kI, 8, .inl q_told)), (ra 11, .inl (kI, 1019, .inl q_now)), (m0, .inr (11, oX11 ra y3))] := hDa
    clear hPa hDa
    refine W.widen (k := 0) (n := 0) (Nat.le_of_ble_eq_true rfl) (Nat.le_of_ble_eq_true rfl) ?_
    obtain rfl : r1 = 0 := iv_one w2 (by decide)
    have hPD9 := cl_s (wc := [(m0, .inr (11, oX11 ra y3)), (ra 2, .inl (kI, 8, .inl q_told)), (ra 11, .inl (kI, 1019, .inl q_now))]) hP hD [2, 0, 1] rfl (by decide +kernel)
    have hP9 := hPD9.1
    have hD9 := hPD9.2
    exact W.iret (v := 0) hx hb hr (fun t ht hW => ⟨⟨0, (), rfl, (iv_w ivk_0 (by decide) (by decide)), y3, hq4, (show y3 1 = x0 1 from hq6.trans (htp_37)), (show y3 10 = x0 10 from hq7.trans (hfp_37)), (show y3 11 = x0 11 from hq8.trans (hor_37)), (show y3 14 = x0 14 from hq9.trans (hirl_37)), by rw [ht]; exact hP9, hD9⟩, hS.F ht⟩) hS.2.2 dX11_seen_42
  refine lv_aload_n hx hb dX11_seen_0 rfl (lv_at hl 0 rfl) ?_
  refine lv_iconst (v := 0) hx hb dX11_seen_1 ic_0 ?_
  refine va_put (D := (dC, dI)) (ci := 11) (v := .int 0) (ty := .int) (C := RX11) (T := TX11) (N := 61) hx hb hts hin11 tyX11 tyX11_ok nmX11 hown hK hP hD hS 0 rfl rfl 2 (by decide) hw_0 (fun _ h9 => h9) rfl (by decide +kernel) rfl rfl (Nat.le_of_ble_eq_true rfl) dX11_seen_2 (fun H locs hPa hDa hS => ?_)
  clear hP hD
  have hP : va_P (dC, dI) vwCl [(m0, .inr (11, oX11 ra (upd x0 0 0))), (ra 2, .inl (kI, 8, .inl q_told)), (ra 11, .inl (kI, 1019, .inl q_now))] H := hPa
  have hD : va_D A [(m0, .inr (11, oX11 ra (upd x0 0 0))), (ra 2, .inl (kI, 8, .inl q_told)), (ra 11, .inl (kI, 1019, .inl q_now))] := hDa
  clear hPa hDa
  refine lv_iload_n hx hb dX11_seen_5 rfl (lv_at hl 1 rfl) ?_
  obtain ⟨hPc, hDc, hFc, hJn⟩ := cl_a (wc := []) (wr := [(m0, .inr (11, oX11 ra (upd x0 0 0))), (ra 2, .inl (kI, 8, .inl q_told)), (ra 11, .inl (kI, 1019, .inl q_now))]) hP hD hS hA [] [0, 1, 2] rfl rfl (by decide +kernel)
  refine va_calli (va_runS (As := [.int p0]) (rest := []) ⟨hx, hb, hml, hown, hts⟩ (s11_isPort l dC dI kB kI kJ kZ kC kS H.size p0) (va_cwS 1 hts gX11_seen_X11_isPort rfl rfl rfl (by decide +kernel) ⟨Nat.le_of_ble_eq_true rfl, Nat.le_of_ble_eq_true rfl⟩) ⟨fun a U g mk q => by obtain ⟨q0, q1, qP, qE, qD⟩ := q; exact ⟨q0, q1, qP, kE_call qE, qD⟩, fun U hU hW => ⟨rfl, by rw [hU], by rw [hU]; exact hPc, kE_warm hW hE, hDc.weaken (fun _ _ _ _ => trivial)⟩⟩ rfl rfl hl.1 rfl (lv_room (Nat.le_of_ble_eq_true rfl)) dX11_seen_6 ⟨Nat.le_of_ble_eq_true rfl, Nat.le_of_ble_eq_true rfl⟩) hS (fun q _ h => hFc q h) hFc (fun r10 u t H locs ht hvm w11 hB hz1 hk1 hS => ?_)
  obtain ⟨hP1, hD1⟩ := hB
  try dsimp only at w11
  obtain ⟨hPa, hDa⟩ := hJn (w1 := []) hk1 ht hP1 hD1
  clear hP hD hPc hDc hFc hJn hP1 hD1 hk1
  have hP : va_P (dC, dI) vwCl [(m0, .inr (11, oX11 ra (upd x0 0 0))), (ra 2, .inl (kI, 8, .inl q_told)), (ra 11, .inl (kI, 1019, .inl q_now))] H := hPa
  have hD : va_D A [(m0, .inr (11, oX11 ra (upd x0 0 0))), (ra 2, .inl (kI, 8, .inl q_told)), (ra 11, .inl (kI, 1019, .inl q_now))] := hDa
  clear hPa hDa
  refine W.widen (k := 0) (n := 0) (Nat.le_of_ble_eq_true rfl) (Nat.le_of_ble_eq_true rfl) ?_
  refine lv_if_eq (tgt := 37) hx hb dX11_seen_9 rfl (fun c12 => ?_) (fun c12 => ?_)
  · have b13 : iv 0 0 r10 := iv_eqL c12 ivk_0
    exact hJ37 (upd x0 0 0) _ _ _ ((fI_u hX (k := 0) ((iv_w ivk_0 (by decide) (by decide))))) (ivk_0) ((show x0 1 = x0 1 from rfl)) ((show x0 10 = x0 10 from rfl)) ((show x0 11 = x0 11 from rfl)) ((show x0 14 = x0 14 from rfl)) (hP) (hD) hS (lv_sub hl [0, 1, 2, 3] rfl)
  · have b14 : iv 1 1 r10 := iv_neLo c12 w11.1 ivk_0 (by decide) (by decide)
    have b15 : iv 0 31 p0 := (w11.2).resolve_left (iv_ne b14 ivk_0 (by decide))
    refine lv_aload_n hx hb dX11_seen_12 rfl (lv_at hl 0 rfl) ?_
    refine lv_iload_n hx hb dX11_seen_13 rfl (lv_at hl 2 rfl) ?_
    obtain ⟨hPc, hDc, hFc, hJn⟩ := cl_a (wc := [(m0, .inr (11, oX11 ra (upd x0 0 0))), (ra 2, .inl (kI, 8, .inl q_told))]) (wr := [(ra 11, .inl (kI, 1019, .inl q_now))]) hP hD hS hA [0, 1] [2] rfl rfl (by decide +kernel)
    refine va_calli (va_runV (As := [.int p1]) (rest := []) ⟨hx, hb, hml, hown, hts⟩ (s11_isGoal l dC dI kB kI kJ kZ kC kS H.size m0 ra (upd x0 0 0) q_told p1 ((fI_u hX (k := 0) ((iv_w ivk_0 (by decide) (by decide))))) (hq_told)) (cwV 1 hts gX11_seen_X11_isGoal rfl rfl rfl (by decide +kernel) ⟨Nat.le_of_ble_eq_true rfl, Nat.le_of_ble_eq_true rfl⟩) ⟨fun a U g mk q => by obtain ⟨q0, q1, qP, qE, qD⟩ := q; exact ⟨q0, q1, qP, kE_call qE, qD⟩, va_recv hK hP (ci := 11) (q0 := 0) rfl rfl, fun U hU hW => ⟨rfl, by rw [hU], by rw [hU]; exact hPc, kE_warm hW hE, hDc.weaken (fun _ _ _ _ => trivial)⟩⟩ rfl rfl hl.1 rfl (lv_room (Nat.le_of_ble_eq_true rfl)) dX11_seen_14 ⟨Nat.le_of_ble_eq_true rfl, Nat.le_of_ble_eq_true rfl⟩) hS (fun q _ h => hFc q h) hFc (fun r16 u t H locs ht hvm w17 hB hz1 hk1 hS => ?_)
    obtain ⟨hP1, hD1⟩ := hB
    try dsimp only at w17
    obtain ⟨hPa, hDa⟩ := hJn (w1 := [(m0, .inr (11, oX11 ra (upd x0 0 0))), (ra 2, .inl (kI, 8, .inl q_told))]) hk1 ht hP1 hD1
    clear hP hD hPc hDc hFc hJn hP1 hD1 hk1
    have hP : va_P (dC, dI) vwCl [(ra 11, .inl (kI, 1019, .inl q_now)), (m0, .inr (11, oX11 ra (upd x0 0 0))), (ra 2, .inl (kI, 8, .inl q_told))] H := hPa
    have hD : va_D A [(ra 11, .inl (kI, 1019, .inl q_now)), (m0, .inr (11, oX11 ra (upd x0 0 0))), (ra 2, .inl (kI, 8, .inl q_told))] := hDa
    clear hPa hDa
    refine W.widen (k := 0) (n := 0) (Nat.le_of_ble_eq_true rfl) (Nat.le_of_ble_eq_true rfl) ?_
    refine lv_if_eq (tgt := 37) hx hb dX11_seen_17 rfl (fun c18 => ?_) (fun c18 => ?_)
    · have b19 : iv 0 0 r16 := iv_eqL c18 ivk_0
      have hPD9 := cl_s (wc := [(m0, .inr (11, oX11 ra (upd x0 0 0))), (ra 2, .inl (kI, 8, .inl q_told)), (ra 11, .inl (kI, 1019, .inl q_now))]) hP hD [1, 2, 0] rfl (by decide +kernel)
      exact hJ37 (upd x0 0 0) _ _ _ ((fI_u hX (k := 0) ((iv_w ivk_0 (by decide) (by decide))))) (ivk_0) ((show x0 1 = x0 1 from rfl)) ((show x0 10 = x0 10 from rfl)) ((show x0 11 = x0 11 from rfl)) ((show x0 14 = x0 14 from rfl)) (hPD9.1) (hPD9.2) hS (lv_sub hl [0, 1, 2, 3] rfl)
    · have b20 : iv 1 1 r16 := iv_neLo c18 w17.1 ivk_0 (by decide) (by decide)
      have b21 : iv 0 2 p1 := (w17.2).resolve_left (iv_ne b20 ivk_0 (by decide))
      refine lv_iload_n hx hb dX11_seen_20 rfl (lv_at hl 3 rfl) ?_
      obtain ⟨hPc, hDc, hFc, hJn⟩ := cl_a (wc := []) (wr := [(ra 11, .inl (kI, 1019, .inl q_now)), (m0, .inr (11, oX11 ra (upd x0 0 0))), (ra 2, .inl (kI, 8, .inl q_told))]) hP hD hS hA [] [0, 1, 2] rfl rfl (by decide +kernel)
      refine va_calli (va_runS (As := [.int p2]) (rest := []) ⟨hx, hb, hml, hown, hts⟩ (s11_isHop l dC dI kB kI kJ kZ kC kS H.size p2) (va_cwS 1 hts gX11_seen_X11_isHop rfl rfl rfl (by decide +kernel) ⟨Nat.le_of_ble_eq_true rfl, Nat.le_of_ble_eq_true rfl⟩) ⟨fun a U g mk q => by obtain ⟨q0, q1, qP, qE, qD⟩ := q; exact ⟨q0, q1, qP, kE_call qE, qD⟩, fun U hU hW => ⟨rfl, by rw [hU], by rw [hU]; exact hPc, kE_warm hW hE, hDc.weaken (fun _ _ _ _ => trivial)⟩⟩ rfl rfl hl.1 rfl (lv_room (Nat.le_of_ble_eq_true rfl)) dX11_seen_21 ⟨Nat.le_of_ble_eq_true rfl, Nat.le_of_ble_eq_true rfl⟩) hS (fun q _ h => hFc q h) hFc (fun r22 u t H locs ht hvm w23 hB hz1 hk1 hS => ?_)
      obtain ⟨hP1, hD1⟩ := hB
      try dsimp only at w23
      obtain ⟨hPa, hDa⟩ := hJn (w1 := []) hk1 ht hP1 hD1
      clear hP hD hPc hDc hFc hJn hP1 hD1 hk1
      have hP : va_P (dC, dI) vwCl [(ra 11, .inl (kI, 1019, .inl q_now)), (m0, .inr (11, oX11 ra (upd x0 0 0))), (ra 2, .inl (kI, 8, .inl q_told))] H := hPa
      have hD : va_D A [(ra 11, .inl (kI, 1019, .inl q_now)), (m0, .inr (11, oX11 ra (upd x0 0 0))), (ra 2, .inl (kI, 8, .inl q_told))] := hDa
      clear hPa hDa
      refine W.widen (k := 0) (n := 0) (Nat.le_of_ble_eq_true rfl) (Nat.le_of_ble_eq_true rfl) ?_
      refine lv_if_eq (tgt := 37) hx hb dX11_seen_24 rfl (fun c24 => ?_) (fun c24 => ?_)
      · have b25 : iv 0 0 r22 := iv_eqL c24 ivk_0
        have hPD9 := cl_s (wc := [(m0, .inr (11, oX11 ra (upd x0 0 0))), (ra 2, .inl (kI, 8, .inl q_told)), (ra 11, .inl (kI, 1019, .inl q_now))]) hP hD [1, 2, 0] rfl (by decide +kernel)
        exact hJ37 (upd x0 0 0) _ _ _ ((fI_u hX (k := 0) ((iv_w ivk_0 (by decide) (by decide))))) (ivk_0) ((show x0 1 = x0 1 from rfl)) ((show x0 10 = x0 10 from rfl)) ((show x0 11 = x0 11 from rfl)) ((show x0 14 = x0 14 from rfl)) (hPD9.1) (hPD9.2) hS (lv_sub hl [0, 1, 2, 3] rfl)
      · have b26 : iv 1 1 r22 := iv_neLo c24 w23.1 ivk_0 (by decide) (by decide)
        have b27 : iv 1 10 p2 := (w23.2).resolve_left (iv_ne b26 ivk_0 (by decide))
        refine lv_aload_n hx hb dX11_seen_27 rfl (lv_at hl 0 rfl) ?_
        refine lv_iload_n hx hb dX11_seen_28 rfl (lv_at hl 1 rfl) ?_
        refine lv_iload_n hx hb dX11_seen_29 rfl (lv_at hl 2 rfl) ?_
        refine lv_iload_n hx hb dX11_seen_30 rfl (lv_at hl 3 rfl) ?_
        obtain ⟨hPc, hDc, hFc, hJn⟩ := cl_a (wc := [(m0, .inr (11, oX11 ra (upd x0 0 0))), (ra 11, .inl (kI, 1019, .inl q_now))]) (wr := [(ra 2, .inl (kI, 8, .inl q_told))]) hP hD hS hA [1, 0] [2] rfl rfl (by decide +kernel)
        refine va_calli (va_runV (As := [.int p0, .int p1, .int p2]) (rest := []) ⟨hx, hb, hml, hown, hts⟩ (s11_seenBy l dC dI kB kI kJ kZ kC kS H.size m0 ra (upd x0 0 0) q_now p0 p1 p2 ((fI_u hX (k := 0) ((iv_w ivk_0 (by decide) (by decide))))) (hq_now) (b15) (b21) (b27)) (cwV 3 hts gX11_seen_X11_seenBy rfl rfl rfl (by decide +kernel) ⟨Nat.le_of_ble_eq_true rfl, Nat.le_of_ble_eq_true rfl⟩) ⟨fun a U g mk q => by obtain ⟨q0, q1, qP, qE, qD⟩ := q; exact ⟨q0, q1, qP, kE_call qE, qD⟩, va_recv hK hP (ci := 11) (q0 := 1) rfl rfl, fun U hU hW => ⟨rfl, by rw [hU], by rw [hU]; exact hPc, kE_warm hW hE, hDc.weaken (fun _ _ _ _ => trivial)⟩⟩ rfl rfl hl.1 rfl (lv_room (Nat.le_of_ble_eq_true rfl)) dX11_seen_31 ⟨Nat.le_of_ble_eq_true rfl, Nat.le_of_ble_eq_true rfl⟩) hS (fun q _ h => hFc q h) hFc (fun r28 u t H locs ht hvm w29 hB hz1 hk1 hS => ?_)
        obtain ⟨hP1, hD1⟩ := hB
        try dsimp only at w29
        obtain ⟨hPa, hDa⟩ := hJn (w1 := [(m0, .inr (11, oX11 ra (upd x0 0 0))), (ra 11, .inl (kI, 1019, .inl q_now))]) hk1 ht hP1 hD1
        clear hP hD hPc hDc hFc hJn hP1 hD1 hk1
        have hP : va_P (dC, dI) vwCl [(ra 2, .inl (kI, 8, .inl q_told)), (m0, .inr (11, oX11 ra (upd x0 0 0))), (ra 11, .inl (kI, 1019, .inl q_now))] H := hPa
        have hD : va_D A [(ra 2, .inl (kI, 8, .inl q_told)), (m0, .inr (11, oX11 ra (upd x0 0 0))), (ra 11, .inl (kI, 1019, .inl q_now))] := hDa
        clear hPa hDa
        refine W.widen (k := 0) (n := 0) (Nat.le_of_ble_eq_true rfl) (Nat.le_of_ble_eq_true rfl) ?_
        obtain ⟨w29, b30⟩ := w29
        subst w29
        refine lv_goto (tgt := 42) hx hb dX11_seen_34 rfl ?_
        have hPD9 := cl_s (wc := [(m0, .inr (11, oX11 ra (upd x0 0 0))), (ra 2, .inl (kI, 8, .inl q_told)), (ra 11, .inl (kI, 1019, .inl q_now))]) hP hD [1, 0, 2] rfl (by decide +kernel)
        have hP9 := hPD9.1
        have hD9 := hPD9.2
        exact W.iret (v := q_now ((59 + (10 * ((3 * p0) + p1)) + p2) - 1).toNatClampNeg - 1) hx hb hr (fun t ht hW => ⟨⟨q_now ((59 + (10 * ((3 * p0) + p1)) + p2) - 1).toNatClampNeg - 1, (), rfl, b30, upd x0 0 0, (fI_u hX (k := 0) ((iv_w ivk_0 (by decide) (by decide)))), (show x0 1 = x0 1 from rfl), (show x0 10 = x0 10 from rfl), (show x0 11 = x0 11 from rfl), (show x0 14 = x0 14 from rfl), by rw [ht]; exact hP9, hD9⟩, hS.F ht⟩) hS.2.2 dX11_seen_42
def rm_s11_hop : Room := { frames := 5, cells := 0, slots := 0, locals := 120 }
set_option maxHeartbeats 4000000 in
set_option maxRecDepth 100000 in
theorem s11_hop (l : Launch) (dC : Nat → ClassId) (dI : Nat → Nat → Nat) (kB kI kJ kZ kC kS : ClassId) (sz : Nat) (m0 : Nat) (ra : Nat → Nat) (x0 : Nat → Int32) (q_told : Nat → Int32) (q_from : Nat → Int32) (q_to : Nat → Int32) (q_goal : Nat → Int32) (q_now : Nat → Int32) (q_reach : Nat → Int32) (q_isAt : Nat → Int32) (p0 : Int32) (p1 : Int32) (p2 : Int32) (hX : fI lX11 hX11 x0) (hq_told : fI lTold hTold q_told) (hq_from : fI (fun _ => 0) (fun _ => 11) q_from) (hq_to : fI (fun _ => 0) (fun _ => 11) q_to) (hq_goal : fI (fun _ => 0) (fun _ => 11) q_goal) (hq_now : fI lNow hNow q_now) : Met l yX11_hop wsX11_hop rm_s11_hop (va_Pc [.ref m0, .int p0, .int p1, .int p2] (fun U => U.heap.size = sz ∧ va_P (dC, dI) vwCl [(m0, .inr (11, oX11 ra x0)), (ra 2, .inl (kI, 8, .inl q_told)), (ra 8, .inl (kI, 40, .inl q_from)), (ra 9, .inl (kI, 40, .inl q_to)), (ra 10, .inl (kI, 6, .inl q_goal)), (ra 11, .inl (kI, 1019, .inl q_now)), (ra 14, .inl (kI, 12, .inl q_reach)), (ra 17, .inl (kZ, 168, .inl q_isAt))] U.heap ∧ kE dC dI kB kI kJ kZ kC kS U ∧ va_D (fun _ => True) [(m0, .inr (11, oX11 ra x0)), (ra 2, .inl (kI, 8, .inl q_told)), (ra 8, .inl (kI, 40, .inl q_from)), (ra 9, .inl (kI, 40, .inl q_to)), (ra 10, .inl (kI, 6, .inl q_goal)), (ra 11, .inl (kI, 1019, .inl q_now)), (ra 14, .inl (kI, 12, .inl q_reach)), (ra 17, .inl (kZ, 168, .inl q_isAt))])) (va_Qi (fun (r : Int32) (_ : Unit) => True) (fun _ t => ∃ (x0' : Nat → Int32) (q_isAt' : Nat → Int32), fI lX11 hX11 x0' ∧ (x0' 1 = x0 1) ∧ (x0' 10 = x0 10) ∧ (x0' 11 = x0 11) ∧ (x0' 14 = x0 14) ∧ va_P (dC, dI) vwCl [(m0, .inr (11, oX11 ra x0')), (ra 2, .inl (kI, 8, .inl q_told)), (ra 8, .inl (kI, 40, .inl q_from)), (ra 9, .inl (kI, 40, .inl q_to)), (ra 10, .inl (kI, 6, .inl q_goal)), (ra 11, .inl (kI, 1019, .inl q_now)), (ra 14, .inl (kI, 12, .inl q_reach)), (ra 17, .inl (kZ, 168, .inl q_isAt'))] t.heap ∧ va_D (va_A [(m0, .inr (11, oX11 ra x0)), (ra 2, .inl (kI, 8, .inl q_told)), (ra 8, .inl (kI, 40, .inl q_from)), (ra 9, .inl (kI, 40, .inl q_to)), (ra 10, .inl (kI, 6, .inl q_goal)), (ra 11, .inl (kI, 1019, .inl q_now)), (ra 14, .inl (kI, 12, .inl q_reach)), (ra 17, .inl (kZ, 168, .inl q_isAt))] sz) [(m0, .inr (11, oX11 ra x0')), (ra 2, .inl (kI, 8, .inl q_told)), (ra 8, .inl (kI, 40, .inl q_from)), (ra 9, .inl (kI, 40, .inl q_to)), (ra 10, .inl (kI, 6, .inl q_goal)), (ra 11, .inl (kI, 1019, .inl q_now)), (ra 14, .inl (kI, 12, .inl q_reach)), (ra 17, .inl (kZ, 168, .inl q_isAt'))]) (va_A [(m0, .inr (11, oX11 ra x0)), (ra 2, .inl (kI, 8, .inl q_told)), (ra 8, .inl (kI, 40, .inl q_from)), (ra 9, .inl (kI, 40, .inl q_to)), (ra 10, .inl (kI, 6, .inl q_goal)), (ra 11, .inl (kI, 1019, .inl q_now)), (ra 14, .inl (kI, 12, .inl q_reach)), (ra 17, .inl (kZ, 168, .inl q_isAt))] sz)) 0 0 (va_A [(m0, .inr (11, oX11 ra x0)), (ra 2, .inl (kI, 8, .inl q_told)), (ra 8, .inl (kI, 40, .inl q_from)), (ra 9, .inl (kI, 40, .inl q_to)), (ra 10, .inl (kI, 6, .inl q_goal)), (ra 11, .inl (kI, 1019, .inl q_now)), (ra 14, .inl (kI, 12, .inl q_reach)), (ra 17, .inl (kZ, 168, .inl q_isAt))] sz) := by
  refine Met.ofW (cc := cX11_hop) (maxL := 4) (ret := (some .int)) (by decide) rfl ?_
  intro p e s m args0 below meth c s₁ B hml hv
  obtain ⟨hargs, hsz, hP, hE, hD0⟩ := hv
  have hx := B.exec
  have hb := B.bytes
  have hr := B.returns
  have hts := atoms_spec (ws := wsX11_hop) B.pre
  have hown : s.vm.findClass RX11 = some m.cls := findClass_of_methodNamed B.named
  have hlocks := B.notSynchronized
  have hK := hE.1
  have hin11 : ∀ w ∈ wsX110, w ∈ wsX11_hop := fun _ h9 => List.mem_cons_of_mem _ (List.mem_append_right _ h9)
  have hw_0 := hts (.fieldLink RX11 142 "PathProberModel" "code" "I") (List.mem_of_getElem? (i := 1) rfl)
  have hw_1 := hts (.fieldLink RX11 60 "PathProberModel" "now" "[I") (List.mem_of_getElem? (i := 2) rfl)
  subst hsz
  have hD := hD0.self (sz := s.heap.size)
  generalize hAe : va_A [(m0, .inr (11, oX11 ra x0)), (ra 2, .inl (kI, 8, .inl q_told)), (ra 8, .inl (kI, 40, .inl q_from)), (ra 9, .inl (kI, 40, .inl q_to)), (ra 10, .inl (kI, 6, .inl q_goal)), (ra 11, .inl (kI, 1019, .inl q_now)), (ra 14, .inl (kI, 12, .inl q_reach)), (ra 17, .inl (kZ, 168, .inl q_isAt))] s.heap.size = A at hD ⊢
  have hA : ∀ q : Nat, s.heap.size ≤ q → A q := fun q h => by rw [← hAe]; exact Or.inr h
  have hS : va_S A s.heap s.heap [] := va_S.rf
  have hP : va_P (dC, dI) vwCl [(m0, .inr (11, oX11 ra x0)), (ra 2, .inl (kI, 8, .inl q_told)), (ra 8, .inl (kI, 40, .inl q_from)), (ra 9, .inl (kI, 40, .inl q_to)), (ra 10, .inl (kI, 6, .inl q_goal)), (ra 11, .inl (kI, 1019, .inl q_now)), (ra 14, .inl (kI, 12, .inl q_reach)), (ra 17, .inl (kZ, 168, .inl q_isAt))] s.heap := hP
  have hl := lv_entry ([.ref m0, .int p0, .int p1, .int p2]) (n := 4) (Nat.le_of_ble_eq_true rfl)
  have hla : entryFrame m args0 4 = entryFrame m ([.ref m0, .int p0, .int p1, .int p2] : List Value).toArray 4 := by rw [hargs]
  rw [hla, lg_entry_eq]
  generalize (lg_sl ([.ref m0, .int p0, .int p1, .int p2]) ++ List.replicate (4 - (lg_sl ([.ref m0, .int p0, .int p1, .int p2])).length) Slot.unset).toArray = ls at hl ⊢
  have hl : lv_has ls 4 [(0, .ref m0), (1, .int p0), (2, .int p1), (3, .int p2)] := hl
  have hJ20 : ∀ (y20_0 : Nat → Int32) (H : Heap) (locs : List Loc) (ls : Array Slot), fI lX11 hX11 y20_0 → iv 0 0 (y20_0 0) → (y20_0 1 = x0 1) → (y20_0 10 = x0 10) → (y20_0 11 = x0 11) → (y20_0 14 = x0 14) → va_P (dC, dI) vwCl [(m0, .inr (11, oX11 ra y20_0)), (ra 2, .inl (kI, 8, .inl q_told)), (ra 8, .inl (kI, 40, .inl q_from)), (ra 9, .inl (kI, 40, .inl q_to)), (ra 10, .inl (kI, 6, .inl q_goal)), (ra 11, .inl (kI, 1019, .inl q_now)), (ra 14, .inl (kI, 12, .inl q_reach)), (ra 17, .inl (kZ, 168, .inl q_isAt))] H → va_D A [(m0, .inr (11, oX11 ra y20_0)), (ra 2, .inl (kI, 8, .inl q_told)), (ra 8, .inl (kI, 40, .inl q_from)), (ra 9, .inl (kI, 40, .inl q_to)), (ra 10, .inl (kI, 6, .inl q_goal)), (ra 11, .inl (kI, 1019, .inl q_now)), (ra 14, .inl (kI, 12, .inl q_reach)), (ra 17, .inl (kZ, 168, .inl q_isAt))] → va_S A s.heap H locs → lv_has ls 4 [(0, .ref m0), (1, .int p0), (2, .int p1), (3, .int p2)] → W p l e (headSpec wsX11_hop rm_s11_hop).room s m args0 below meth c H locs (0) (0) (MQ below (va_Qi (fun (r : Int32) (_ : Unit) => True) (fun _ t => ∃ (x0' : Nat → Int32) (q_isAt' : Nat → Int32), fI lX11 hX11 x0' ∧ (x0' 1 = x0 1) ∧ (x0' 10 = x0 10) ∧ (x0' 11 = x0 11) ∧ (x0' 14 = x0 14) ∧ va_P (dC, dI) vwCl [(m0, .inr (11, oX11 ra x0')), (ra 2, .inl (kI, 8, .inl q_told)), (ra 8, .inl (kI, 40, .inl q_from)), (ra 9, .inl (kI, 40, .inl q_to)), (ra 10, .inl (kI, 6, .inl q_goal)), (ra 11, .inl (kI, 1019, .inl q_now)), (ra 14, .inl (kI, 12, .inl q_reach)), (ra 17, .inl (kZ, 168, .inl q_isAt'))] t.heap ∧ va_D A [(m0, .inr (11, oX11 ra x0')), (ra 2, .inl (kI, 8, .inl q_told)), (ra 8, .inl (kI, 40, .inl q_from)), (ra 9, .inl (kI, 40, .inl q_to)), (ra 10, .inl (kI, 6, .inl q_goal)), (ra 11, .inl (kI, 1019, .inl q_now)), (ra 14, .inl (kI, 12, .inl q_reach)), (ra 17, .inl (kZ, 168, .inl q_isAt'))]) A) args0 s 0 0 A) (F0 m 20 ls []) := by
    intro y20_0 H locs ls hI20_0 h20_2 htp_20 hfp_20 hor_20 hirl_20 hP hD hS hl
    refine lv_aload_n hx hb dX11_hop_20 rfl (lv_at hl 0 rfl) ?_
    refine lv_iconst (v := 1) hx hb dX11_hop_21 ic_1 ?_
    obtain ⟨hPc, hDc, hFc, hJn⟩ := cl_a (wc := [(m0, .inr (11, oX11 ra y20_0))]) (wr := [(ra 2, .inl (kI, 8, .inl q_told)), (ra 8, .inl (kI, 40, .inl q_from)), (ra 9, .inl (kI, 40, .inl q_to)), (ra 10, .inl (kI, 6, .inl q_goal)), (ra 11, .inl (kI, 1019, .inl q_now)), (ra 14, .inl (kI, 12, .inl q_reach)), (ra 17, .inl (kZ, 168, .inl q_isAt))]) hP hD hS hA [0] [1, 2, 3, 4, 5, 6, 7] rfl rfl (by decide +kernel)
    refine va_calli (va_runV (As := [.int 1]) (rest := []) ⟨hx, hb, hml, hown, hts⟩ (s11_fail l dC dI kB kI kJ kZ kC kS H.size m0 ra y20_0 1 (hI20_0)) (cwV 1 hts gX11_hop_X11_fail rfl rfl rfl (by decide +kernel) ⟨Nat.le_of_ble_eq_true rfl, Nat.le_of_ble_eq_true rfl⟩) ⟨fun a U g mk q => by obtain ⟨q0, q1, qP, qE, qD⟩ := q; exact ⟨q0, q1, qP, kE_call qE, qD⟩, va_recv hK hP (ci := 11) (q0 := 0) rfl rfl, fun U hU hW => ⟨rfl, by rw [hU], by rw [hU]; exact hPc, kE_warm hW hE, hDc.weaken (fun _ _ _ _ => trivial)⟩⟩ rfl rfl hl.1 rfl (lv_room (Nat.le_of_ble_eq_true rfl)) dX11_hop_22 ⟨Nat.le_of_ble_eq_true rfl, Nat.le_of_ble_eq_true rfl⟩) hS (fun q _ h => hFc q h) hFc (fun r1 u t H locs ht hvm w2 hB hz1 hk1 hS => ?_)
    obtain ⟨y3, hq4, hq5, hq6, hq7, hq8, hq9, hP1, hD1⟩ := hB
    try dsimp only at w2
    obtain ⟨hPa, hDa⟩ := hJn (w1 := [(m0, .inr (11, oX11 ra y3))]) hk1 ht hP1 hD1
    clear hP hD hPc hDc hFc hJn hP1 hD1 hk1
    have hP : va_P (dC, dI) vwCl [(ra 2, .inl (kI, 8, .inl q_told)), (ra 8, .inl (kI, 40, .inl q_from)), (ra 9, .inl (kI, 40, .inl q_to)), (ra 10, .inl (kI, 6, .inl q_goal)), (ra 11, .inl (kI, 1019, .inl q_now)), (ra 14, .inl (kI, 12, .inl q_reach)), (ra 17, .inl (kZ, 168, .inl q_isAt)), (m0, .inr (11, oX11 ra y3))] H := hPa
    have hD : va_D A [(ra 2, .inl (kI, 8, .inl q_told)), (ra 8, .inl (kI, 40, .inl q_from)), (ra 9, .inl (kI, 40, .inl q_to)), (ra 10, .inl (kI, 6, .inl q_goal)), (ra 11, .inl (kI, 1019, .inl q_now)), (ra 14, .inl (kI, 12, .inl q_reach)), (ra 17, .inl (kZ, 168, .inl q_isAt)), (m0, .inr (11, oX11 ra y3))] := hDa
    clear hPa hDa
    refine W.widen (k := 0) (n := 0) (Nat.le_of_ble_eq_true rfl) (Nat.le_of_ble_eq_true rfl) ?_
    obtain rfl : r1 = 0 := iv_one w2 (by decide)
    have hPD9 := cl_s (wc := [(m0, .inr (11, oX11 ra y3)), (ra 2, .inl (kI, 8, .inl q_told)), (ra 8, .inl (kI, 40, .inl q_from)), (ra 9, .inl (kI, 40, .inl q_to)), (ra 10, .inl (kI, 6, .inl q_goal)), (ra 11, .inl (kI, 1019, .inl q_now)), (ra 14, .inl (kI, 12, .inl q_reach)), (ra 17, .inl (kZ, 168, .inl q_isAt))]) hP hD [7, 0, 1, 2, 3, 4, 5, 6] rfl (by decide +kernel)
    have hP9 := hPD9.1
    have hD9 := hPD9.2
    exact W.iret (v := 0) hx hb hr (fun t ht hW => ⟨⟨0, (), rfl, trivial, y3, q_isAt, hq4, (show y3 1 = x0 1 from hq6.trans (htp_20)), (show y3 10 = x0 10 from hq7.trans (hfp_20)), (show y3 11 = x0 11 from hq8.trans (hor_20)), (show y3 14 = x0 14 from hq9.trans (hirl_20)), by rw [ht]; exact hP9, hD9⟩, hS.F ht⟩) hS.2.2 dX11_hop_25
  refine lv_aload_n hx hb dX11_hop_0 rfl (lv_at hl 0 rfl) ?_
  refine lv_iconst (v := 0) hx hb dX11_hop_1 ic_0 ?_
  refine va_put (D := (dC, dI)) (ci := 11) (v := .int 0) (ty := .int) (C := RX11) (T := TX11) (N := 61) hx hb hts hin11 tyX11 tyX11_ok nmX11 hown hK hP hD hS 0 rfl rfl 2 (by decide) hw_0 (fun _ h9 => h9) rfl (by decide +kernel) rfl rfl (Nat.le_of_ble_eq_true rfl) dX11_hop_2 (fun H locs hPa hDa hS => ?_)
  clear hP hD
  have hP : va_P (dC, dI) vwCl [(m0, .inr (11, oX11 ra (upd x0 0 0))), (ra 2, .inl (kI, 8, .inl q_told)), (ra 8, .inl (kI, 40, .inl q_from)), (ra 9, .inl (kI, 40, .inl q_to)), (ra 10, .inl (kI, 6, .inl q_goal)), (ra 11, .inl (kI, 1019, .inl q_now)), (ra 14, .inl (kI, 12, .inl q_reach)), (ra 17, .inl (kZ, 168, .inl q_isAt))] H := hPa
  have hD : va_D A [(m0, .inr (11, oX11 ra (upd x0 0 0))), (ra 2, .inl (kI, 8, .inl q_told)), (ra 8, .inl (kI, 40, .inl q_from)), (ra 9, .inl (kI, 40, .inl q_to)), (ra 10, .inl (kI, 6, .inl q_goal)), (ra 11, .inl (kI, 1019, .inl q_now)), (ra 14, .inl (kI, 12, .inl q_reach)), (ra 17, .inl (kZ, 168, .inl q_isAt))] := hDa
  clear hPa hDa
  refine lv_aload_n hx hb dX11_hop_5 rfl (lv_at hl 0 rfl) ?_
  refine lv_iload_n hx hb dX11_hop_6 rfl (lv_at hl 1 rfl) ?_
  obtain ⟨hPc, hDc, hFc, hJn⟩ := cl_a (wc := [(m0, .inr (11, oX11 ra (upd x0 0 0))), (ra 2, .inl (kI, 8, .inl q_told))]) (wr := [(ra 8, .inl (kI, 40, .inl q_from)), (ra 9, .inl (kI, 40, .inl q_to)), (ra 10, .inl (kI, 6, .inl q_goal)), (ra 11, .inl (kI, 1019, .inl q_now)), (ra 14, .inl (kI, 12, .inl q_reach)), (ra 17, .inl (kZ, 168, .inl q_isAt))]) hP hD hS hA [0, 1] [2, 3, 4, 5, 6, 7] rfl rfl (by decide +kernel)
  refine va_calli (va_runV (As := [.int p0]) (rest := []) ⟨hx, hb, hml, hown, hts⟩ (s11_isGoal l dC dI kB kI kJ kZ kC kS H.size m0 ra (upd x0 0 0) q_told p0 ((fI_u hX (k := 0) ((iv_w ivk_0 (by decide) (by decide))))) (hq_told)) (cwV 1 hts gX11_hop_X11_isGoal rfl rfl rfl (by decide +kernel) ⟨Nat.le_of_ble_eq_true rfl, Nat.le_of_ble_eq_true rfl⟩) ⟨fun a U g mk q => by obtain ⟨q0, q1, qP, qE, qD⟩ := q; exact ⟨q0, q1, qP, kE_call qE, qD⟩, va_recv hK hP (ci := 11) (q0 := 0) rfl rfl, fun U hU hW => ⟨rfl, by rw [hU], by rw [hU]; exact hPc, kE_warm hW hE, hDc.weaken (fun _ _ _ _ => trivial)⟩⟩ rfl rfl hl.1 rfl (lv_room (Nat.le_of_ble_eq_true rfl)) dX11_hop_7 ⟨Nat.le_of_ble_eq_true rfl, Nat.le_of_ble_eq_true rfl⟩) hS (fun q _ h => hFc q h) hFc (fun r10 u t H locs ht hvm w11 hB hz1 hk1 hS => ?_)
  obtain ⟨hP1, hD1⟩ := hB
  try dsimp only at w11
  obtain ⟨hPa, hDa⟩ := hJn (w1 := [(m0, .inr (11, oX11 ra (upd x0 0 0))), (ra 2, .inl (kI, 8, .inl q_told))]) hk1 ht hP1 hD1
  clear hP hD hPc hDc hFc hJn hP1 hD1 hk1
  have hP : va_P (dC, dI) vwCl [(ra 8, .inl (kI, 40, .inl q_from)), (ra 9, .inl (kI, 40, .inl q_to)), (ra 10, .inl (kI, 6, .inl q_goal)), (ra 11, .inl (kI, 1019, .inl q_now)), (ra 14, .inl (kI, 12, .inl q_reach)), (ra 17, .inl (kZ, 168, .inl q_isAt)), (m0, .inr (11, oX11 ra (upd x0 0 0))), (ra 2, .inl (kI, 8, .inl q_told))] H := hPa
  have hD : va_D A [(ra 8, .inl (kI, 40, .inl q_from)), (ra 9, .inl (kI, 40, .inl q_to)), (ra 10, .inl (kI, 6, .inl q_goal)), (ra 11, .inl (kI, 1019, .inl q_now)), (ra 14, .inl (kI, 12, .inl q_reach)), (ra 17, .inl (kZ, 168, .inl q_isAt)), (m0, .inr (11, oX11 ra (upd x0 0 0))), (ra 2, .inl (kI, 8, .inl q_told))] := hDa
  clear hPa hDa
  refine W.widen (k := 0) (n := 0) (Nat.le_of_ble_eq_true rfl) (Nat.le_of_ble_eq_true rfl) ?_
  refine lv_if_eq (tgt := 20) hx hb dX11_hop_10 rfl (fun c12 => ?_) (fun c12 => ?_)
  · have b13 : iv 0 0 r10 := iv_eqL c12 ivk_0
    have hPD9 := cl_s (wc := [(m0, .inr (11, oX11 ra (upd x0 0 0))), (ra 2, .inl (kI, 8, .inl q_told)), (ra 8, .inl (kI, 40, .inl q_from)), (ra 9, .inl (kI, 40, .inl q_to)), (ra 10, .inl (kI, 6, .inl q_goal)), (ra 11, .inl (kI, 1019, .inl q_now)), (ra 14, .inl (kI, 12, .inl q_reach)), (ra 17, .inl (kZ, 168, .inl q_isAt))]) hP hD [6, 7, 0, 1, 2, 3, 4, 5] rfl (by decide +kernel)
    exact hJ20 (upd x0 0 0) _ _ _ ((fI_u hX (k := 0) ((iv_w ivk_0 (by decide) (by decide))))) (ivk_0) ((show x0 1 = x0 1 from rfl)) ((show x0 10 = x0 10 from rfl)) ((show x0 11 = x0 11 from rfl)) ((show x0 14 = x0 14 from rfl)) (hPD9.1) (hPD9.2) hS (lv_sub hl [0, 1, 2, 3] rfl)
  · have b14 : iv 1 1 r10 := iv_neLo c12 w11.1 ivk_0 (by decide) (by decide)
    have b15 : iv 0 2 p0 := (w11.2).resolve_left (iv_ne b14 ivk_0 (by decide))
    refine lv_iload_n hx hb dX11_hop_13 rfl (lv_at hl 2 rfl) ?_
    obtain ⟨hPc, hDc, hFc, hJn⟩ := cl_a (wc := []) (wr := [(ra 8, .inl (kI, 40, .inl q_from)), (ra 9, .inl (kI, 40, .inl q_to)), (ra 10, .inl (kI, 6, .inl q_goal)), (ra 11, .inl (kI, 1019, .inl q_now)), (ra 14, .inl (kI, 12, .inl q_reach)), (ra 17, .inl (kZ, 168, .inl q_isAt)), (m0, .inr (11, oX11 ra (upd x0 0 0))), (ra 2, .inl (kI, 8, .inl q_told))]) hP hD hS hA [] [0, 1, 2, 3, 4, 5, 6, 7] rfl rfl (by decide +kernel)
    refine va_calli (va_runS (As := [.int p1]) (rest := []) ⟨hx, hb, hml, hown, hts⟩ (s11_isHop l dC dI kB kI kJ kZ kC kS H.size p1) (va_cwS 1 hts gX11_hop_X11_isHop rfl rfl rfl (by decide +kernel) ⟨Nat.le_of_ble_eq_true rfl, Nat.le_of_ble_eq_true rfl⟩) ⟨fun a U g mk q => by obtain ⟨q0, q1, qP, qE, qD⟩ := q; exact ⟨q0, q1, qP, kE_call qE, qD⟩, fun U hU hW => ⟨rfl, by rw [hU], by rw [hU]; exact hPc, kE_warm hW hE, hDc.weaken (fun _ _ _ _ => trivial)⟩⟩ rfl rfl hl.1 rfl (lv_room (Nat.le_of_ble_eq_true rfl)) dX11_hop_14 ⟨Nat.le_of_ble_eq_true rfl, Nat.le_of_ble_eq_true rfl⟩) hS (fun q _ h => hFc q h) hFc (fun r16 u t H locs ht hvm w17 hB hz1 hk1 hS => ?_)
    obtain ⟨hP1, hD1⟩ := hB
    try dsimp only at w17
    obtain ⟨hPa, hDa⟩ := hJn (w1 := []) hk1 ht hP1 hD1
    clear hP hD hPc hDc hFc hJn hP1 hD1 hk1
    have hP : va_P (dC, dI) vwCl [(ra 8, .inl (kI, 40, .inl q_from)), (ra 9, .inl (kI, 40, .inl q_to)), (ra 10, .inl (kI, 6, .inl q_goal)), (ra 11, .inl (kI, 1019, .inl q_now)), (ra 14, .inl (kI, 12, .inl q_reach)), (ra 17, .inl (kZ, 168, .inl q_isAt)), (m0, .inr (11, oX11 ra (upd x0 0 0))), (ra 2, .inl (kI, 8, .inl q_told))] H := hPa
    have hD : va_D A [(ra 8, .inl (kI, 40, .inl q_from)), (ra 9, .inl (kI, 40, .inl q_to)), (ra 10, .inl (kI, 6, .inl q_goal)), (ra 11, .inl (kI, 1019, .inl q_now)), (ra 14, .inl (kI, 12, .inl q_reach)), (ra 17, .inl (kZ, 168, .inl q_isAt)), (m0, .inr (11, oX11 ra (upd x0 0 0))), (ra 2, .inl (kI, 8, .inl q_told))] := hDa
    clear hPa hDa
    refine W.widen (k := 0) (n := 0) (Nat.le_of_ble_eq_true rfl) (Nat.le_of_ble_eq_true rfl) ?_
    refine lv_if_ne (tgt := 26) hx hb dX11_hop_17 rfl (fun c18 => ?_) (fun c18 => ?_)
    · have b19 : iv 1 1 r16 := iv_neLo c18 w17.1 ivk_0 (by decide) (by decide)
      have b20 : iv 1 10 p1 := (w17.2).resolve_left (iv_ne b19 ivk_0 (by decide))
      refine lv_iload_n hx hb dX11_hop_26 rfl (lv_at hl 3 rfl) ?_
      by_cases c21 : p2 = 0
      · refine lv_tableIn (off := 33) (tgt := 60) hx hb dX11_hop_27 (by rw [c21]; decide) (by rw [c21]; decide) (by rw [c21]; decide) (by decide) ?_
        have b22 : iv 0 0 p2 := iv_eqL c21 ivk_0
        refine lv_aload_n hx hb dX11_hop_60 rfl (lv_at hl 0 rfl) ?_
        refine lv_iload_n hx hb dX11_hop_61 rfl (lv_at hl 1 rfl) ?_
        refine lv_iload_n hx hb dX11_hop_62 rfl (lv_at hl 2 rfl) ?_
        obtain ⟨hPc, hDc, hFc, hJn⟩ := cl_a (wc := [(m0, .inr (11, oX11 ra (upd x0 0 0))), (ra 11, .inl (kI, 1019, .inl q_now))]) (wr := [(ra 8, .inl (kI, 40, .inl q_from)), (ra 9, .inl (kI, 40, .inl q_to)), (ra 10, .inl (kI, 6, .inl q_goal)), (ra 14, .inl (kI, 12, .inl q_reach)), (ra 17, .inl (kZ, 168, .inl q_isAt)), (ra 2, .inl (kI, 8, .inl q_told))]) hP hD hS hA [6, 3] [0, 1, 2, 4, 5, 7] rfl rfl (by decide +kernel)
        refine va_calli (va_runV (As := [.int p0, .int p1]) (rest := []) ⟨hx, hb, hml, hown, hts⟩ (s11_addresses l dC dI kB kI kJ kZ kC kS H.size m0 ra (upd x0 0 0) q_now p0 p1 ((fI_u hX (k := 0) ((iv_w ivk_0 (by decide) (by decide))))) (hq_now) (b15) (b20)) (cwV 2 hts gX11_hop_X11_addresses rfl rfl rfl (by decide +kernel) ⟨Nat.le_of_ble_eq_true rfl, Nat.le_of_ble_eq_true rfl⟩) ⟨fun a U g mk q => by obtain ⟨q0, q1, qP, qE, qD⟩ := q; exact ⟨q0, q1, qP, kE_call qE, qD⟩, va_recv hK hP (ci := 11) (q0 := 6) rfl rfl, fun U hU hW => ⟨rfl, by rw [hU], by rw [hU]; exact hPc, kE_warm hW hE, hDc.weaken (fun _ _ _ _ => trivial)⟩⟩ rfl rfl hl.1 rfl (lv_room (Nat.le_of_ble_eq_true rfl)) dX11_hop_63 ⟨Nat.le_of_ble_eq_true rfl, Nat.le_of_ble_eq_true rfl⟩) hS (fun q _ h => hFc q h) hFc (fun r23 u t H locs ht hvm w24 hB hz1 hk1 hS => ?_)
        obtain ⟨hP1, hD1⟩ := hB
        try dsimp only at w24
        obtain ⟨hPa, hDa⟩ := hJn (w1 := [(m0, .inr (11, oX11 ra (upd x0 0 0))), (ra 11, .inl (kI, 1019, .inl q_now))]) hk1 ht hP1 hD1
        clear hP hD hPc hDc hFc hJn hP1 hD1 hk1
        have hP : va_P (dC, dI) vwCl [(ra 8, .inl (kI, 40, .inl q_from)), (ra 9, .inl (kI, 40, .inl q_to)), (ra 10, .inl (kI, 6, .inl q_goal)), (ra 14, .inl (kI, 12, .inl q_reach)), (ra 17, .inl (kZ, 168, .inl q_isAt)), (ra 2, .inl (kI, 8, .inl q_told)), (m0, .inr (11, oX11 ra (upd x0 0 0))), (ra 11, .inl (kI, 1019, .inl q_now))] H := hPa
        have hD : va_D A [(ra 8, .inl (kI, 40, .inl q_from)), (ra 9, .inl (kI, 40, .inl q_to)), (ra 10, .inl (kI, 6, .inl q_goal)), (ra 14, .inl (kI, 12, .inl q_reach)), (ra 17, .inl (kZ, 168, .inl q_isAt)), (ra 2, .inl (kI, 8, .inl q_told)), (m0, .inr (11, oX11 ra (upd x0 0 0))), (ra 11, .inl (kI, 1019, .inl q_now))] := hDa
        clear hPa hDa
        refine W.widen (k := 0) (n := 0) (Nat.le_of_ble_eq_true rfl) (Nat.le_of_ble_eq_true rfl) ?_
        have hPD9 := cl_s (wc := [(m0, .inr (11, oX11 ra (upd x0 0 0))), (ra 2, .inl (kI, 8, .inl q_told)), (ra 8, .inl (kI, 40, .inl q_from)), (ra 9, .inl (kI, 40, .inl q_to)), (ra 10, .inl (kI, 6, .inl q_goal)), (ra 11, .inl (kI, 1019, .inl q_now)), (ra 14, .inl (kI, 12, .inl q_reach)), (ra 17, .inl (kZ, 168, .inl q_isAt))]) hP hD [6, 5, 0, 1, 2, 7, 3, 4] rfl (by decide +kernel)
        have hP9 := hPD9.1
        have hD9 := hPD9.2
        exact W.iret (v := r23) hx hb hr (fun t ht hW => ⟨⟨r23, (), rfl, trivial, upd x0 0 0, q_isAt, (fI_u hX (k := 0) ((iv_w ivk_0 (by decide) (by decide)))), (show x0 1 = x0 1 from rfl), (show x0 10 = x0 10 from rfl), (show x0 11 = x0 11 from rfl), (show x0 14 = x0 14 from rfl), by rw [ht]; exact hP9, hD9⟩, hS.F ht⟩) hS.2.2 dX11_hop_66
      by_cases c25 : p2 = 1
      · refine lv_tableIn (off := 40) (tgt := 67) hx hb dX11_hop_27 (by rw [c25]; decide) (by rw [c25]; decide) (by rw [c25]; decide) (by decide) ?_
        have b26 : iv 1 1 p2 := iv_eqL c25 ivk_1
        refine lv_aload_n hx hb dX11_hop_67 rfl (lv_at hl 0 rfl) ?_
        refine va_get (D := (dC, dI)) (ci := 11) (v := .ref (ra 11)) (C := RX11) (T := TX11) (N := 61) hx hb hts hin11 hown hK hP 6 rfl rfl 12 (Nat.le_of_ble_eq_true rfl) hw_1 (fun _ h9 => h9) rfl dX11_hop_68 ?_
        refine lv_iload_n hx hb dX11_hop_71 rfl (lv_at hl 1 rfl) ?_
        refine lv_iload_n hx hb dX11_hop_72 rfl (lv_at hl 2 rfl) ?_
        obtain ⟨hPc, hDc, hFc, hJn⟩ := cl_a (wc := []) (wr := [(ra 8, .inl (kI, 40, .inl q_from)), (ra 9, .inl (kI, 40, .inl q_to)), (ra 10, .inl (kI, 6, .inl q_goal)), (ra 11, .inl (kI, 1019, .inl q_now)), (ra 14, .inl (kI, 12, .inl q_reach)), (ra 17, .inl (kZ, 168, .inl q_isAt)), (m0, .inr (11, oX11 ra (upd x0 0 0))), (ra 2, .inl (kI, 8, .inl q_told))]) hP hD hS hA [] [0, 1, 2, 3, 4, 5, 6, 7] rfl rfl (by decide +kernel)
        refine va_calli (va_runS (As := [.int p0, .int p1]) (rest := [.ref (ra 11)]) ⟨hx, hb, hml, hown, hts⟩ (s11_sentAt l dC dI kB kI kJ kZ kC kS H.size p0 p1 (b15) (b20)) (va_cwS 2 hts gX11_hop_X11_sentAt rfl rfl rfl (by decide +kernel) ⟨Nat.le_of_ble_eq_true rfl, Nat.le_of_ble_eq_true rfl⟩) ⟨fun a U g mk q => by obtain ⟨q0, q1, qP, qE, qD⟩ := q; exact ⟨q0, q1, qP, kE_call qE, qD⟩, fun U hU hW => ⟨rfl, by rw [hU], by rw [hU]; exact hPc, kE_warm hW hE, hDc.weaken (fun _ _ _ _ => trivial)⟩⟩ rfl rfl hl.1 rfl (lv_room (Nat.le_of_ble_eq_true rfl)) dX11_hop_73 ⟨Nat.le_of_ble_eq_true rfl, Nat.le_of_ble_eq_true rfl⟩) hS (fun q _ h => hFc q h) hFc (fun r27 u t H locs ht hvm w28 hB hz1 hk1 hS => ?_)
        obtain ⟨hP1, hD1⟩ := hB
        try dsimp only at w28
        obtain ⟨hPa, hDa⟩ := hJn (w1 := []) hk1 ht hP1 hD1
        clear hP hD hPc hDc hFc hJn hP1 hD1 hk1
        have hP : va_P (dC, dI) vwCl [(ra 8, .inl (kI, 40, .inl q_from)), (ra 9, .inl (kI, 40, .inl q_to)), (ra 10, .inl (kI, 6, .inl q_goal)), (ra 11, .inl (kI, 1019, .inl q_now)), (ra 14, .inl (kI, 12, .inl q_reach)), (ra 17, .inl (kZ, 168, .inl q_isAt)), (m0, .inr (11, oX11 ra (upd x0 0 0))), (ra 2, .inl (kI, 8, .inl q_told))] H := hPa
        have hD : va_D A [(ra 8, .inl (kI, 40, .inl q_from)), (ra 9, .inl (kI, 40, .inl q_to)), (ra 10, .inl (kI, 6, .inl q_goal)), (ra 11, .inl (kI, 1019, .inl q_now)), (ra 14, .inl (kI, 12, .inl q_reach)), (ra 17, .inl (kZ, 168, .inl q_isAt)), (m0, .inr (11, oX11 ra (upd x0 0 0))), (ra 2, .inl (kI, 8, .inl q_told))] := hDa
        clear hPa hDa
        refine W.widen (k := 0) (n := 0) (Nat.le_of_ble_eq_true rfl) (Nat.le_of_ble_eq_true rfl) ?_
        refine va_iald hx hb hK hP 3 1 rfl rfl (iv_in w28 (by decide) (by decide)) dX11_hop_76 ?_
        refine lv_topi (fun z29 _ => ?_)
        have hPD9 := cl_s (wc := [(m0, .inr (11, oX11 ra (upd x0 0 0))), (ra 2, .inl (kI, 8, .inl q_told)), (ra 8, .inl (kI, 40, .inl q_from)), (ra 9, .inl (kI, 40, .inl q_to)), (ra 10, .inl (kI, 6, .inl q_goal)), (ra 11, .inl (kI, 1019, .inl q_now)), (ra 14, .inl (kI, 12, .inl q_reach)), (ra 17, .inl (kZ, 168, .inl q_isAt))]) hP hD [6, 7, 0, 1, 2, 3, 4, 5] rfl (by decide +kernel)
        have hP9 := hPD9.1
        have hD9 := hPD9.2
        exact W.iret (v := z29) hx hb hr (fun t ht hW => ⟨⟨z29, (), rfl, trivial, upd x0 0 0, q_isAt, (fI_u hX (k := 0) ((iv_w ivk_0 (by decide) (by decide)))), (show x0 1 = x0 1 from rfl), (show x0 10 = x0 10 from rfl), (show x0 11 = x0 11 from rfl), (show x0 14 = x0 14 from rfl), by rw [ht]; exact hP9, hD9⟩, hS.F ht⟩) hS.2.2 dX11_hop_77
      by_cases c30 : p2 = 2
      · refine lv_tableIn (off := 51) (tgt := 78) hx hb dX11_hop_27 (by rw [c30]; decide) (by rw [c30]; decide) (by rw [c30]; decide) (by decide) ?_
        have b31 : iv 2 2 p2 := iv_eqL c30 ivk_2
        refine lv_aload_n hx hb dX11_hop_78 rfl (lv_at hl 0 rfl) ?_
        refine lv_iload_n hx hb dX11_hop_79 rfl (lv_at hl 1 rfl) ?_
        refine lv_iload_n hx hb dX11_hop_80 rfl (lv_at hl 2 rfl) ?_
        obtain ⟨hPc, hDc, hFc, hJn⟩ := cl_a (wc := [(m0, .inr (11, oX11 ra (upd x0 0 0))), (ra 2, .inl (kI, 8, .inl q_told)), (ra 11, .inl (kI, 1019, .inl q_now))]) (wr := [(ra 8, .inl (kI, 40, .inl q_from)), (ra 9, .inl (kI, 40, .inl q_to)), (ra 10, .inl (kI, 6, .inl q_goal)), (ra 14, .inl (kI, 12, .inl q_reach)), (ra 17, .inl (kZ, 168, .inl q_isAt))]) hP hD hS hA [6, 7, 3] [0, 1, 2, 4, 5] rfl rfl (by decide +kernel)
        refine va_calli (va_runV (As := [.int p0, .int p1]) (rest := []) ⟨hx, hb, hml, hown, hts⟩ (s11_edgesAt l dC dI kB kI kJ kZ kC kS H.size m0 ra (upd x0 0 0) q_told q_now p0 p1 ((fI_u hX (k := 0) ((iv_w ivk_0 (by decide) (by decide))))) (hq_told) (hq_now) (b15) (b20)) (cwV 2 hts gX11_hop_X11_edgesAt rfl rfl rfl (by decide +kernel) ⟨Nat.le_of_ble_eq_true rfl, Nat.le_of_ble_eq_true rfl⟩) ⟨fun a U g mk q => by obtain ⟨q0, q1, qP, qE, qD⟩ := q; exact ⟨q0, q1, qP, kE_call qE, qD⟩, va_recv hK hP (ci := 11) (q0 := 6) rfl rfl, fun U hU hW => ⟨rfl, by rw [hU], by rw [hU]; exact hPc, kE_warm hW hE, hDc.weaken (fun _ _ _ _ => trivial)⟩⟩ rfl rfl hl.1 rfl (lv_room (Nat.le_of_ble_eq_true rfl)) dX11_hop_81 ⟨Nat.le_of_ble_eq_true rfl, Nat.le_of_ble_eq_true rfl⟩) hS (fun q _ h => hFc q h) hFc (fun r32 u t H locs ht hvm w33 hB hz1 hk1 hS => ?_)
        obtain ⟨hP1, hD1⟩ := hB
        try dsimp only at w33
        obtain ⟨hPa, hDa⟩ := hJn (w1 := [(m0, .inr (11, oX11 ra (upd x0 0 0))), (ra 2, .inl (kI, 8, .inl q_told)), (ra 11, .inl (kI, 1019, .inl q_now))]) hk1 ht hP1 hD1
        clear hP hD hPc hDc hFc hJn hP1 hD1 hk1
        have hP : va_P (dC, dI) vwCl [(ra 8, .inl (kI, 40, .inl q_from)), (ra 9, .inl (kI, 40, .inl q_to)), (ra 10, .inl (kI, 6, .inl q_goal)), (ra 14, .inl (kI, 12, .inl q_reach)), (ra 17, .inl (kZ, 168, .inl q_isAt)), (m0, .inr (11, oX11 ra (upd x0 0 0))), (ra 2, .inl (kI, 8, .inl q_told)), (ra 11, .inl (kI, 1019, .inl q_now))] H := hPa
        have hD : va_D A [(ra 8, .inl (kI, 40, .inl q_from)), (ra 9, .inl (kI, 40, .inl q_to)), (ra 10, .inl (kI, 6, .inl q_goal)), (ra 14, .inl (kI, 12, .inl q_reach)), (ra 17, .inl (kZ, 168, .inl q_isAt)), (m0, .inr (11, oX11 ra (upd x0 0 0))), (ra 2, .inl (kI, 8, .inl q_told)), (ra 11, .inl (kI, 1019, .inl q_now))] := hDa
        clear hPa hDa
        refine W.widen (k := 0) (n := 0) (Nat.le_of_ble_eq_true rfl) (Nat.le_of_ble_eq_true rfl) ?_
        have hPD9 := cl_s (wc := [(m0, .inr (11, oX11 ra (upd x0 0 0))), (ra 2, .inl (kI, 8, .inl q_told)), (ra 8, .inl (kI, 40, .inl q_from)), (ra 9, .inl (kI, 40, .inl q_to)), (ra 10, .inl (kI, 6, .inl q_goal)), (ra 11, .inl (kI, 1019, .inl q_now)), (ra 14, .inl (kI, 12, .inl q_reach)), (ra 17, .inl (kZ, 168, .inl q_isAt))]) hP hD [5, 6, 0, 1, 2, 7, 3, 4] rfl (by decide +kernel)
        have hP9 := hPD9.1
        have hD9 := hPD9.2
        exact W.iret (v := r32) hx hb hr (fun t ht hW => ⟨⟨r32, (), rfl, trivial, upd x0 0 0, q_isAt, (fI_u hX (k := 0) ((iv_w ivk_0 (by decide) (by decide)))), (show x0 1 = x0 1 from rfl), (show x0 10 = x0 10 from rfl), (show x0 11 = x0 11 from rfl), (show x0 14 = x0 14 from rfl), by rw [ht]; exact hP9, hD9⟩, hS.F ht⟩) hS.2.2 dX11_hop_84
      by_cases c34 : p2 = 3
      · refine lv_tableIn (off := 58) (tgt := 85) hx hb dX11_hop_27 (by rw [c34]; decide) (by rw [c34]; decide) (by rw [c34]; decide) (by decide) ?_
        have b35 : iv 3 3 p2 := iv_eqL c34 ivk_3
        refine lv_aload_n hx hb dX11_hop_85 rfl (lv_at hl 0 rfl) ?_
        refine lv_iload_n hx hb dX11_hop_86 rfl (lv_at hl 1 rfl) ?_
        refine lv_iload_n hx hb dX11_hop_87 rfl (lv_at hl 2 rfl) ?_
        obtain ⟨hPc, hDc, hFc, hJn⟩ := cl_a (wc := [(m0, .inr (11, oX11 ra (upd x0 0 0))), (ra 2, .inl (kI, 8, .inl q_told)), (ra 8, .inl (kI, 40, .inl q_from)), (ra 9, .inl (kI, 40, .inl q_to)), (ra 10, .inl (kI, 6, .inl q_goal)), (ra 14, .inl (kI, 12, .inl q_reach)), (ra 17, .inl (kZ, 168, .inl q_isAt))]) (wr := [(ra 11, .inl (kI, 1019, .inl q_now))]) hP hD hS hA [6, 7, 0, 1, 2, 4, 5] [3] rfl rfl (by decide +kernel)
        refine va_calli (va_runV (As := [.int p0, .int p1]) (rest := []) ⟨hx, hb, hml, hown, hts⟩ (s11_places l dC dI kB kI kJ kZ kC kS H.size m0 ra (upd x0 0 0) q_told q_from q_to q_goal q_reach q_isAt p0 p1 ((fI_u hX (k := 0) ((iv_w ivk_0 (by decide) (by decide))))) (hq_told) (hq_from) (hq_to) (hq_goal) (b15) (b20)) (cwV 2 hts gX11_hop_X11_places rfl rfl rfl (by decide +kernel) ⟨Nat.le_of_ble_eq_true rfl, Nat.le_of_ble_eq_true rfl⟩) ⟨fun a U g mk q => by obtain ⟨q0, q1, qP, qE, qD⟩ := q; exact ⟨q0, q1, qP, kE_call qE, qD⟩, va_recv hK hP (ci := 11) (q0 := 6) rfl rfl, fun U hU hW => ⟨rfl, by rw [hU], by rw [hU]; exact hPc, kE_warm hW hE, hDc.weaken (fun _ _ _ _ => trivial)⟩⟩ rfl rfl hl.1 rfl (lv_room (Nat.le_of_ble_eq_true rfl)) dX11_hop_88 ⟨Nat.le_of_ble_eq_true rfl, Nat.le_of_ble_eq_true rfl⟩) hS (fun q _ h => hFc q h) hFc (fun r36 u t H locs ht hvm w37 hB hz1 hk1 hS => ?_)
        obtain ⟨f38, hP1, hD1⟩ := hB
        try dsimp only at w37
        obtain ⟨hPa, hDa⟩ := hJn (w1 := [(m0, .inr (11, oX11 ra (upd x0 0 0))), (ra 2, .inl (kI, 8, .inl q_told)), (ra 8, .inl (kI, 40, .inl q_from)), (ra 9, .inl (kI, 40, .inl q_to)), (ra 10, .inl (kI, 6, .inl q_goal)), (ra 14, .inl (kI, 12, .inl q_reach)), (ra 17, .inl (kZ, 168, .inl f38))]) hk1 ht hP1 hD1
        clear hP hD hPc hDc hFc hJn hP1 hD1 hk1
        have hP : va_P (dC, dI) vwCl [(ra 11, .inl (kI, 1019, .inl q_now)), (m0, .inr (11, oX11 ra (upd x0 0 0))), (ra 2, .inl (kI, 8, .inl q_told)), (ra 8, .inl (kI, 40, .inl q_from)), (ra 9, .inl (kI, 40, .inl q_to)), (ra 10, .inl (kI, 6, .inl q_goal)), (ra 14, .inl (kI, 12, .inl q_reach)), (ra 17, .inl (kZ, 168, .inl f38))] H := hPa
        have hD : va_D A [(ra 11, .inl (kI, 1019, .inl q_now)), (m0, .inr (11, oX11 ra (upd x0 0 0))), (ra 2, .inl (kI, 8, .inl q_told)), (ra 8, .inl (kI, 40, .inl q_from)), (ra 9, .inl (kI, 40, .inl q_to)), (ra 10, .inl (kI, 6, .inl q_goal)), (ra 14, .inl (kI, 12, .inl q_reach)), (ra 17, .inl (kZ, 168, .inl f38))] := hDa
        clear hPa hDa
        refine W.widen (k := 0) (n := 0) (Nat.le_of_ble_eq_true rfl) (Nat.le_of_ble_eq_true rfl) ?_
        have hPD9 := cl_s (wc := [(m0, .inr (11, oX11 ra (upd x0 0 0))), (ra 2, .inl (kI, 8, .inl q_told)), (ra 8, .inl (kI, 40, .inl q_from)), (ra 9, .inl (kI, 40, .inl q_to)), (ra 10, .inl (kI, 6, .inl q_goal)), (ra 11, .inl (kI, 1019, .inl q_now)), (ra 14, .inl (kI, 12, .inl q_reach)), (ra 17, .inl (kZ, 168, .inl f38))]) hP hD [1, 2, 3, 4, 5, 0, 6, 7] rfl (by decide +kernel)
        have hP9 := hPD9.1
        have hD9 := hPD9.2
        exact W.iret (v := r36) hx hb hr (fun t ht hW => ⟨⟨r36, (), rfl, trivial, upd x0 0 0, f38, (fI_u hX (k := 0) ((iv_w ivk_0 (by decide) (by decide)))), (show x0 1 = x0 1 from rfl), (show x0 10 = x0 10 from rfl), (show x0 11 = x0 11 from rfl), (show x0 14 = x0 14 from rfl), by rw [ht]; exact hP9, hD9⟩, hS.F ht⟩) hS.2.2 dX11_hop_91
      by_cases c39 : p2 = 4
      · refine lv_tableIn (off := 65) (tgt := 92) hx hb dX11_hop_27 (by rw [c39]; decide) (by rw [c39]; decide) (by rw [c39]; decide) (by decide) ?_
        have b40 : iv 4 4 p2 := iv_eqL c39 ivk_4
        refine lv_aload_n hx hb dX11_hop_92 rfl (lv_at hl 0 rfl) ?_
        refine lv_iload_n hx hb dX11_hop_93 rfl (lv_at hl 1 rfl) ?_
        refine lv_iload_n hx hb dX11_hop_94 rfl (lv_at hl 2 rfl) ?_
        obtain ⟨hPc, hDc, hFc, hJn⟩ := cl_a (wc := [(m0, .inr (11, oX11 ra (upd x0 0 0))), (ra 2, .inl (kI, 8, .inl q_told)), (ra 8, .inl (kI, 40, .inl q_from)), (ra 9, .inl (kI, 40, .inl q_to)), (ra 10, .inl (kI, 6, .inl q_goal)), (ra 11, .inl (kI, 1019, .inl q_now)), (ra 14, .inl (kI, 12, .inl q_reach)), (ra 17, .inl (kZ, 168, .inl q_isAt))]) (wr := []) hP hD hS hA [6, 7, 0, 1, 2, 3, 4, 5] [] rfl rfl (by decide +kernel)
        refine va_calli (va_runV (As := [.int p0, .int p1]) (rest := []) ⟨hx, hb, hml, hown, hts⟩ (s11_hidden l dC dI kB kI kJ kZ kC kS H.size m0 ra (upd x0 0 0) q_told q_from q_to q_goal q_now q_reach q_isAt p0 p1 ((fI_u hX (k := 0) ((iv_w ivk_0 (by decide) (by decide))))) (hq_told) (hq_from) (hq_to) (hq_goal) (hq_now) (b15) (b20)) (cwV 2 hts gX11_hop_X11_hidden rfl rfl rfl (by decide +kernel) ⟨Nat.le_of_ble_eq_true rfl, Nat.le_of_ble_eq_true rfl⟩) ⟨fun a U g mk q => by obtain ⟨q0, q1, qP, qE, qD⟩ := q; exact ⟨q0, q1, qP, kE_call qE, qD⟩, va_recv hK hP (ci := 11) (q0 := 6) rfl rfl, fun U hU hW => ⟨rfl, by rw [hU], by rw [hU]; exact hPc, kE_warm hW hE, hDc.weaken (fun _ _ _ _ => trivial)⟩⟩ rfl rfl hl.1 rfl (lv_room (Nat.le_of_ble_eq_true rfl)) dX11_hop_95 ⟨Nat.le_of_ble_eq_true rfl, Nat.le_of_ble_eq_true rfl⟩) hS (fun q _ h => hFc q h) hFc (fun r41 u t H locs ht hvm w42 hB hz1 hk1 hS => ?_)
        obtain ⟨f43, hP1, hD1⟩ := hB
        try dsimp only at w42
        obtain ⟨hPa, hDa⟩ := hJn (w1 := [(m0, .inr (11, oX11 ra (upd x0 0 0))), (ra 2, .inl (kI, 8, .inl q_told)), (ra 8, .inl (kI, 40, .inl q_from)), (ra 9, .inl (kI, 40, .inl q_to)), (ra 10, .inl (kI, 6, .inl q_goal)), (ra 11, .inl (kI, 1019, .inl q_now)), (ra 14, .inl (kI, 12, .inl q_reach)), (ra 17, .inl (kZ, 168, .inl f43))]) hk1 ht hP1 hD1
        clear hP hD hPc hDc hFc hJn hP1 hD1 hk1
        have hP : va_P (dC, dI) vwCl [(m0, .inr (11, oX11 ra (upd x0 0 0))), (ra 2, .inl (kI, 8, .inl q_told)), (ra 8, .inl (kI, 40, .inl q_from)), (ra 9, .inl (kI, 40, .inl q_to)), (ra 10, .inl (kI, 6, .inl q_goal)), (ra 11, .inl (kI, 1019, .inl q_now)), (ra 14, .inl (kI, 12, .inl q_reach)), (ra 17, .inl (kZ, 168, .inl f43))] H := hPa
        have hD : va_D A [(m0, .inr (11, oX11 ra (upd x0 0 0))), (ra 2, .inl (kI, 8, .inl q_told)), (ra 8, .inl (kI, 40, .inl q_from)), (ra 9, .inl (kI, 40, .inl q_to)), (ra 10, .inl (kI, 6, .inl q_goal)), (ra 11, .inl (kI, 1019, .inl q_now)), (ra 14, .inl (kI, 12, .inl q_reach)), (ra 17, .inl (kZ, 168, .inl f43))] := hDa
        clear hPa hDa
        refine W.widen (k := 0) (n := 0) (Nat.le_of_ble_eq_true rfl) (Nat.le_of_ble_eq_true rfl) ?_
        have hP9 := hP
        have hD9 := hD
        exact W.iret (v := r41) hx hb hr (fun t ht hW => ⟨⟨r41, (), rfl, trivial, upd x0 0 0, f43, (fI_u hX (k := 0) ((iv_w ivk_0 (by decide) (by decide)))), (show x0 1 = x0 1 from rfl), (show x0 10 = x0 10 from rfl), (show x0 11 = x0 11 from rfl), (show x0 14 = x0 14 from rfl), by rw [ht]; exact hP9, hD9⟩, hS.F ht⟩) hS.2.2 dX11_hop_98
      refine lv_tableOut (tgt := 99) hx hb dX11_hop_27 (by have g0 : ¬ p2.toInt = 0 := fun w => c21 (Int32.toInt_inj.mp w); have g1 : ¬ p2.toInt = 1 := fun w => c25 (Int32.toInt_inj.mp w); have g2 : ¬ p2.toInt = 2 := fun w => c30 (Int32.toInt_inj.mp w); have g3 : ¬ p2.toInt = 3 := fun w => c34 (Int32.toInt_inj.mp w); have g4 : ¬ p2.toInt = 4 := fun w => c39 (Int32.toInt_inj.mp w); have gb := (iv_t p2); have gb1 := gb.1; have gb2 := gb.2; omega) (by decide) ?_
      refine lv_aload_n hx hb dX11_hop_99 rfl (lv_at hl 0 rfl) ?_
      refine lv_iconst (v := 1) hx hb dX11_hop_100 ic_1 ?_
      obtain ⟨hPc, hDc, hFc, hJn⟩ := cl_a (wc := [(m0, .inr (11, oX11 ra (upd x0 0 0)))]) (wr := [(ra 8, .inl (kI, 40, .inl q_from)), (ra 9, .inl (kI, 40, .inl q_to)), (ra 10, .inl (kI, 6, .inl q_goal)), (ra 11, .inl (kI, 1019, .inl q_now)), (ra 14, .inl (kI, 12, .inl q_reach)), (ra 17, .inl (kZ, 168, .inl q_isAt)), (ra 2, .inl (kI, 8, .inl q_told))]) hP hD hS hA [6] [0, 1, 2, 3, 4, 5, 7] rfl rfl (by decide +kernel)
      refine va_calli (va_runV (As := [.int 1]) (rest := []) ⟨hx, hb, hml, hown, hts⟩ (s11_fail l dC dI kB kI kJ kZ kC kS H.size m0 ra (upd x0 0 0) 1 ((fI_u hX (k := 0) ((iv_w ivk_0 (by decide) (by decide)))))) (cwV 1 hts gX11_hop_X11_fail rfl rfl rfl (by decide +kernel) ⟨Nat.le_of_ble_eq_true rfl, Nat.le_of_ble_eq_true rfl⟩) ⟨fun a U g mk q => by obtain ⟨q0, q1, qP, qE, qD⟩ := q; exact ⟨q0, q1, qP, kE_call qE, qD⟩, va_recv hK hP (ci := 11) (q0 := 6) rfl rfl, fun U hU hW => ⟨rfl, by rw [hU], by rw [hU]; exact hPc, kE_warm hW hE, hDc.weaken (fun _ _ _ _ => trivial)⟩⟩ rfl rfl hl.1 rfl (lv_room (Nat.le_of_ble_eq_true rfl)) dX11_hop_101 ⟨Nat.le_of_ble_eq_true rfl, Nat.le_of_ble_eq_true rfl⟩) hS (fun q _ h => hFc q h) hFc (fun r44 u t H locs ht hvm w45 hB hz1 hk1 hS => ?_)
      obtain ⟨y46, hq47, hq48, hq49, hq50, hq51, hq52, hP1, hD1⟩ := hB
      try dsimp only at w45
      obtain ⟨hPa, hDa⟩ := hJn (w1 := [(m0, .inr (11, oX11 ra y46))]) hk1 ht hP1 hD1
      clear hP hD hPc hDc hFc hJn hP1 hD1 hk1
      have hP : va_P (dC, dI) vwCl [(ra 8, .inl (kI, 40, .inl q_from)), (ra 9, .inl (kI, 40, .inl q_to)), (ra 10, .inl (kI, 6, .inl q_goal)), (ra 11, .inl (kI, 1019, .inl q_now)), (ra 14, .inl (kI, 12, .inl q_reach)), (ra 17, .inl (kZ, 168, .inl q_isAt)), (ra 2, .inl (kI, 8, .inl q_told)), (m0, .inr (11, oX11 ra y46))] H := hPa
      have hD : va_D A [(ra 8, .inl (kI, 40, .inl q_from)), (ra 9, .inl (kI, 40, .inl q_to)), (ra 10, .inl (kI, 6, .inl q_goal)), (ra 11, .inl (kI, 1019, .inl q_now)), (ra 14, .inl (kI, 12, .inl q_reach)), (ra 17, .inl (kZ, 168, .inl q_isAt)), (ra 2, .inl (kI, 8, .inl q_told)), (m0, .inr (11, oX11 ra y46))] := hDa
      clear hPa hDa
      refine W.widen (k := 0) (n := 0) (Nat.le_of_ble_eq_true rfl) (Nat.le_of_ble_eq_true rfl) ?_
      obtain rfl : r44 = 0 := iv_one w45 (by decide)
      have hPD9 := cl_s (wc := [(m0, .inr (11, oX11 ra y46)), (ra 2, .inl (kI, 8, .inl q_told)), (ra 8, .inl (kI, 40, .inl q_from)), (ra 9, .inl (kI, 40, .inl q_to)), (ra 10, .inl (kI, 6, .inl q_goal)), (ra 11, .inl (kI, 1019, .inl q_now)), (ra 14, .inl (kI, 12, .inl q_reach)), (ra 17, .inl (kZ, 168, .inl q_isAt))]) hP hD [7, 6, 0, 1, 2, 3, 4, 5] rfl (by decide +kernel)
      have hP9 := hPD9.1
      have hD9 := hPD9.2
      exact W.iret (v := 0) hx hb hr (fun t ht hW => ⟨⟨0, (), rfl, trivial, y46, q_isAt, hq47, (show y46 1 = x0 1 from hq49), (show y46 10 = x0 10 from hq50), (show y46 11 = x0 11 from hq51), (show y46 14 = x0 14 from hq52), by rw [ht]; exact hP9, hD9⟩, hS.F ht⟩) hS.2.2 dX11_hop_104
    · have b53 : iv 0 0 r16 := iv_eqL c18 ivk_0
      have hPD9 := cl_s (wc := [(m0, .inr (11, oX11 ra (upd x0 0 0))), (ra 2, .inl (kI, 8, .inl q_told)), (ra 8, .inl (kI, 40, .inl q_from)), (ra 9, .inl (kI, 40, .inl q_to)), (ra 10, .inl (kI, 6, .inl q_goal)), (ra 11, .inl (kI, 1019, .inl q_now)), (ra 14, .inl (kI, 12, .inl q_reach)), (ra 17, .inl (kZ, 168, .inl q_isAt))]) hP hD [6, 7, 0, 1, 2, 3, 4, 5] rfl (by decide +kernel)
      exact hJ20 (upd x0 0 0) _ _ _ ((fI_u hX (k := 0) ((iv_w ivk_0 (by decide) (by decide))))) (ivk_0) ((show x0 1 = x0 1 from rfl)) ((show x0 10 = x0 10 from rfl)) ((show x0 11 = x0 11 from rfl)) ((show x0 14 = x0 14 from rfl)) (hPD9.1) (hPD9.2) hS (lv_sub hl [0, 1, 2, 3] rfl)
def rm_s11_sure : Room := { frames := 3, cells := 0, slots := 0, locals := 69 }
set_option maxHeartbeats 4000000 in
set_option maxRecDepth 100000 in
theorem s11_sure (l : Launch) (dC : Nat → ClassId) (dI : Nat → Nat → Nat) (kB kI kJ kZ kC kS : ClassId) (sz : Nat) (m0 : Nat) (ra : Nat → Nat) (x0 : Nat → Int32) (q_told : Nat → Int32) (q_now : Nat → Int32) (q_met : Nat → Int64) (p0 : Int32) (p1 : Int32) (hX : fI lX11 hX11 x0) (hq_told : fI lTold hTold q_told) (hq_now : fI lNow hNow q_now) : Met l yX11_sure wsX11_sure rm_s11_sure (va_Pc [.ref m0, .int p0, .int p1] (fun U => U.heap.size = sz ∧ va_P (dC, dI) vwCl [(m0, .inr (11, oX11 ra x0)), (ra 2, .inl (kI, 8, .inl q_told)), (ra 11, .inl (kI, 1019, .inl q_now)), (ra 15, .inl (kJ, 24, .inr (.inl q_met)))] U.heap ∧ kE dC dI kB kI kJ kZ kC kS U ∧ va_D (fun _ => True) [(m0, .inr (11, oX11 ra x0)), (ra 2, .inl (kI, 8, .inl q_told)), (ra 11, .inl (kI, 1019, .inl q_now)), (ra 15, .inl (kJ, 24, .inr (.inl q_met)))])) (va_Ql (fun (r : Int64) (_ : Unit) => True) (fun _ t => ∃ (x0' : Nat → Int32) (q_met' : Nat → Int64), fI lX11 hX11 x0' ∧ (x0' 1 = x0 1) ∧ (x0' 10 = x0 10) ∧ (x0' 11 = x0 11) ∧ (x0' 14 = x0 14) ∧ va_P (dC, dI) vwCl [(m0, .inr (11, oX11 ra x0')), (ra 2, .inl (kI, 8, .inl q_told)), (ra 11, .inl (kI, 1019, .inl q_now)), (ra 15, .inl (kJ, 24, .inr (.inl q_met')))] t.heap ∧ va_D (va_A [(m0, .inr (11, oX11 ra x0)), (ra 2, .inl (kI, 8, .inl q_told)), (ra 11, .inl (kI, 1019, .inl q_now)), (ra 15, .inl (kJ, 24, .inr (.inl q_met)))] sz) [(m0, .inr (11, oX11 ra x0')), (ra 2, .inl (kI, 8, .inl q_told)), (ra 11, .inl (kI, 1019, .inl q_now)), (ra 15, .inl (kJ, 24, .inr (.inl q_met')))]) (va_A [(m0, .inr (11, oX11 ra x0)), (ra 2, .inl (kI, 8, .inl q_told)), (ra 11, .inl (kI, 1019, .inl q_now)), (ra 15, .inl (kJ, 24, .inr (.inl q_met)))] sz)) 0 0 (va_A [(m0, .inr (11, oX11 ra x0)), (ra 2, .inl (kI, 8, .inl q_told)), (ra 11, .inl (kI, 1019, .inl q_now)), (ra 15, .inl (kJ, 24, .inr (.inl q_met)))] sz) := by
  refine Met.ofW (cc := cX11_sure) (maxL := 4) (ret := (some .long)) (by decide) rfl ?_
  intro p e s m args0 below meth c s₁ B hml hv
  obtain ⟨hargs, hsz, hP, hE, hD0⟩ := hv
  have hx := B.exec
  have hb := B.bytes
  have hr := B.returns
  have hts := atoms_spec (ws := wsX11_sure) B.pre
  have hown : s.vm.findClass RX11 = some m.cls := findClass_of_methodNamed B.named
  have hlocks := B.notSynchronized
  have hK := hE.1
  have hin11 : ∀ w ∈ wsX110, w ∈ wsX11_sure := fun _ h9 => List.mem_cons_of_mem _ (List.mem_append_right _ h9)
  have hw_0 := hts (.fieldLink RX11 142 "PathProberModel" "code" "I") (List.mem_of_getElem? (i := 1) rfl)
  have hw_1 := hts (.fieldLink RX11 60 "PathProberModel" "now" "[I") (List.mem_of_getElem? (i := 3) rfl)
  have hw_2 := hts (.constantLong RX11 320 (1000000000000)) (List.mem_of_getElem? (i := 2) rfl)
  subst hsz
  have hD := hD0.self (sz := s.heap.size)
  generalize hAe : va_A [(m0, .inr (11, oX11 ra x0)), (ra 2, .inl (kI, 8, .inl q_told)), (ra 11, .inl (kI, 1019, .inl q_now)), (ra 15, .inl (kJ, 24, .inr (.inl q_met)))] s.heap.size = A at hD ⊢
  have hA : ∀ q : Nat, s.heap.size ≤ q → A q := fun q h => by rw [← hAe]; exact Or.inr h
  have hS : va_S A s.heap s.heap [] := va_S.rf
  have hP : va_P (dC, dI) vwCl [(m0, .inr (11, oX11 ra x0)), (ra 2, .inl (kI, 8, .inl q_told)), (ra 11, .inl (kI, 1019, .inl q_now)), (ra 15, .inl (kJ, 24, .inr (.inl q_met)))] s.heap := hP
  have hl := lv_entry ([.ref m0, .int p0, .int p1]) (n := 4) (Nat.le_of_ble_eq_true rfl)
  have hla : entryFrame m args0 4 = entryFrame m ([.ref m0, .int p0, .int p1] : List Value).toArray 4 := by rw [hargs]
  rw [hla, lg_entry_eq]
  generalize (lg_sl ([.ref m0, .int p0, .int p1]) ++ List.replicate (4 - (lg_sl ([.ref m0, .int p0, .int p1])).length) Slot.unset).toArray = ls at hl ⊢
  have hl : lv_has ls 4 [(0, .ref m0), (1, .int p0), (2, .int p1)] := hl
  have hJ20 : ∀ (y20_0 : Nat → Int32) (H : Heap) (locs : List Loc) (ls : Array Slot), fI lX11 hX11 y20_0 → iv 0 0 (y20_0 0) → (y20_0 1 = x0 1) → (y20_0 10 = x0 10) → (y20_0 11 = x0 11) → (y20_0 14 = x0 14) → va_P (dC, dI) vwCl [(m0, .inr (11, oX11 ra y20_0)), (ra 2, .inl (kI, 8, .inl q_told)), (ra 11, .inl (kI, 1019, .inl q_now)), (ra 15, .inl (kJ, 24, .inr (.inl q_met)))] H → va_D A [(m0, .inr (11, oX11 ra y20_0)), (ra 2, .inl (kI, 8, .inl q_told)), (ra 11, .inl (kI, 1019, .inl q_now)), (ra 15, .inl (kJ, 24, .inr (.inl q_met)))] → va_S A s.heap H locs → lv_has ls 4 [(0, .ref m0), (1, .int p0), (2, .int p1)] → W p l e (headSpec wsX11_sure rm_s11_sure).room s m args0 below meth c H locs (0) (0) (MQ below (va_Ql (fun (r : Int64) (_ : Unit) => True) (fun _ t => ∃ (x0' : Nat → Int32) (q_met' : Nat → Int64), fI lX11 hX11 x0' ∧ (x0' 1 = x0 1) ∧ (x0' 10 = x0 10) ∧ (x0' 11 = x0 11) ∧ (x0' 14 = x0 14) ∧ va_P (dC, dI) vwCl [(m0, .inr (11, oX11 ra x0')), (ra 2, .inl (kI, 8, .inl q_told)), (ra 11, .inl (kI, 1019, .inl q_now)), (ra 15, .inl (kJ, 24, .inr (.inl q_met')))] t.heap ∧ va_D A [(m0, .inr (11, oX11 ra x0')), (ra 2, .inl (kI, 8, .inl q_told)), (ra 11, .inl (kI, 1019, .inl q_now)), (ra 15, .inl (kJ, 24, .inr (.inl q_met')))]) A) args0 s 0 0 A) (F0 m 20 ls []) := by
    intro y20_0 H locs ls hI20_0 h20_2 htp_20 hfp_20 hor_20 hirl_20 hP hD hS hl
    refine lv_aload_n hx hb dX11_sure_20 rfl (lv_at hl 0 rfl) ?_
    refine lv_iconst (v := 1) hx hb dX11_sure_21 ic_1 ?_
    obtain ⟨hPc, hDc, hFc, hJn⟩ := cl_a (wc := [(m0, .inr (11, oX11 ra y20_0))]) (wr := [(ra 2, .inl (kI, 8, .inl q_told)), (ra 11, .inl (kI, 1019, .inl q_now)), (ra 15, .inl (kJ, 24, .inr (.inl q_met)))]) hP hD hS hA [0] [1, 2, 3] rfl rfl (by decide +kernel)
    refine va_calli (va_runV (As := [.int 1]) (rest := []) ⟨hx, hb, hml, hown, hts⟩ (s11_fail l dC dI kB kI kJ kZ kC kS H.size m0 ra y20_0 1 (hI20_0)) (cwV 1 hts gX11_sure_X11_fail rfl rfl rfl (by decide +kernel) ⟨Nat.le_of_ble_eq_true rfl, Nat.le_of_ble_eq_true rfl⟩) ⟨fun a U g mk q => by obtain ⟨q0, q1, qP, qE, qD⟩ := q; exact ⟨q0, q1, qP, kE_call qE, qD⟩, va_recv hK hP (ci := 11) (q0 := 0) rfl rfl, fun U hU hW => ⟨rfl, by rw [hU], by rw [hU]; exact hPc, kE_warm hW hE, hDc.weaken (fun _ _ _ _ => trivial)⟩⟩ rfl rfl hl.1 rfl (lv_room (Nat.le_of_ble_eq_true rfl)) dX11_sure_22 ⟨Nat.le_of_ble_eq_true rfl, Nat.le_of_ble_eq_true rfl⟩) hS (fun q _ h => hFc q h) hFc (fun r1 u t H locs ht hvm w2 hB hz1 hk1 hS => ?_)
    obtain ⟨y3, hq4, hq5, hq6, hq7, hq8, hq9, hP1, hD1⟩ := hB
    try dsimp only at w2
    obtain ⟨hPa, hDa⟩ := hJn (w1 := [(m0, .inr (11, oX11 ra y3))]) hk1 ht hP1 hD1
    clear hP hD hPc hDc hFc hJn hP1 hD1 hk1
    have hP : va_P (dC, dI) vwCl [(ra 2, .inl (kI, 8, .inl q_told)), (ra 11, .inl (kI, 1019, .inl q_now)), (ra 15, .inl (kJ, 24, .inr (.inl q_met))), (m0, .inr (11, oX11 ra y3))] H := hPa
    have hD : va_D A [(ra 2, .inl (kI, 8, .inl q_told)), (ra 11, .inl (kI, 1019, .inl q_now)), (ra 15, .inl (kJ, 24, .inr (.inl q_met))), (m0, .inr (11, oX11 ra y3))] := hDa
    clear hPa hDa
    refine W.widen (k := 0) (n := 0) (Nat.le_of_ble_eq_true rfl) (Nat.le_of_ble_eq_true rfl) ?_
    obtain rfl : r1 = 0 := iv_one w2 (by decide)
    refine lv_i2l (v := 0) hx hb dX11_sure_25 (by decide) ?_
    have hPD9 := cl_s (wc := [(m0, .inr (11, oX11 ra y3)), (ra 2, .inl (kI, 8, .inl q_told)), (ra 11, .inl (kI, 1019, .inl q_now)), (ra 15, .inl (kJ, 24, .inr (.inl q_met)))]) hP hD [3, 0, 1, 2] rfl (by decide +kernel)
    have hP9 := hPD9.1
    have hD9 := hPD9.2
    exact W.lret (v := 0) hx hb hr (fun t ht hW => ⟨⟨0, (), rfl, trivial, y3, q_met, hq4, (show y3 1 = x0 1 from hq6.trans (htp_20)), (show y3 10 = x0 10 from hq7.trans (hfp_20)), (show y3 11 = x0 11 from hq8.trans (hor_20)), (show y3 14 = x0 14 from hq9.trans (hirl_20)), by rw [ht]; exact hP9, hD9⟩, hS.F ht⟩) hS.2.2 dX11_sure_26
  refine lv_aload_n hx hb dX11_sure_0 rfl (lv_at hl 0 rfl) ?_
  refine lv_iconst (v := 0) hx hb dX11_sure_1 ic_0 ?_
  refine va_put (D := (dC, dI)) (ci := 11) (v := .int 0) (ty := .int) (C := RX11) (T := TX11) (N := 61) hx hb hts hin11 tyX11 tyX11_ok nmX11 hown hK hP hD hS 0 rfl rfl 2 (by decide) hw_0 (fun _ h9 => h9) rfl (by decide +kernel) rfl rfl (Nat.le_of_ble_eq_true rfl) dX11_sure_2 (fun H locs hPa hDa hS => ?_)
  clear hP hD
  have hP : va_P (dC, dI) vwCl [(m0, .inr (11, oX11 ra (upd x0 0 0))), (ra 2, .inl (kI, 8, .inl q_told)), (ra 11, .inl (kI, 1019, .inl q_now)), (ra 15, .inl (kJ, 24, .inr (.inl q_met)))] H := hPa
  have hD : va_D A [(m0, .inr (11, oX11 ra (upd x0 0 0))), (ra 2, .inl (kI, 8, .inl q_told)), (ra 11, .inl (kI, 1019, .inl q_now)), (ra 15, .inl (kJ, 24, .inr (.inl q_met)))] := hDa
  clear hPa hDa
  refine lv_aload_n hx hb dX11_sure_5 rfl (lv_at hl 0 rfl) ?_
  refine lv_iload_n hx hb dX11_sure_6 rfl (lv_at hl 1 rfl) ?_
  obtain ⟨hPc, hDc, hFc, hJn⟩ := cl_a (wc := [(m0, .inr (11, oX11 ra (upd x0 0 0))), (ra 2, .inl (kI, 8, .inl q_told))]) (wr := [(ra 11, .inl (kI, 1019, .inl q_now)), (ra 15, .inl (kJ, 24, .inr (.inl q_met)))]) hP hD hS hA [0, 1] [2, 3] rfl rfl (by decide +kernel)
  refine va_calli (va_runV (As := [.int p0]) (rest := []) ⟨hx, hb, hml, hown, hts⟩ (s11_isGoal l dC dI kB kI kJ kZ kC kS H.size m0 ra (upd x0 0 0) q_told p0 ((fI_u hX (k := 0) ((iv_w ivk_0 (by decide) (by decide))))) (hq_told)) (cwV 1 hts gX11_sure_X11_isGoal rfl rfl rfl (by decide +kernel) ⟨Nat.le_of_ble_eq_true rfl, Nat.le_of_ble_eq_true rfl⟩) ⟨fun a U g mk q => by obtain ⟨q0, q1, qP, qE, qD⟩ := q; exact ⟨q0, q1, qP, kE_call qE, qD⟩, va_recv hK hP (ci := 11) (q0 := 0) rfl rfl, fun U hU hW => ⟨rfl, by rw [hU], by rw [hU]; exact hPc, kE_warm hW hE, hDc.weaken (fun _ _ _ _ => trivial)⟩⟩ rfl rfl hl.1 rfl (lv_room (Nat.le_of_ble_eq_true rfl)) dX11_sure_7 ⟨Nat.le_of_ble_eq_true rfl, Nat.le_of_ble_eq_true rfl⟩) hS (fun q _ h => hFc q h) hFc (fun r10 u t H locs ht hvm w11 hB hz1 hk1 hS => ?_)
  obtain ⟨hP1, hD1⟩ := hB
  try dsimp only at w11
  obtain ⟨hPa, hDa⟩ := hJn (w1 := [(m0, .inr (11, oX11 ra (upd x0 0 0))), (ra 2, .inl (kI, 8, .inl q_told))]) hk1 ht hP1 hD1
  clear hP hD hPc hDc hFc hJn hP1 hD1 hk1
  have hP : va_P (dC, dI) vwCl [(ra 11, .inl (kI, 1019, .inl q_now)), (ra 15, .inl (kJ, 24, .inr (.inl q_met))), (m0, .inr (11, oX11 ra (upd x0 0 0))), (ra 2, .inl (kI, 8, .inl q_told))] H := hPa
  have hD : va_D A [(ra 11, .inl (kI, 1019, .inl q_now)), (ra 15, .inl (kJ, 24, .inr (.inl q_met))), (m0, .inr (11, oX11 ra (upd x0 0 0))), (ra 2, .inl (kI, 8, .inl q_told))] := hDa
  clear hPa hDa
  refine W.widen (k := 0) (n := 0) (Nat.le_of_ble_eq_true rfl) (Nat.le_of_ble_eq_true rfl) ?_
  refine lv_if_eq (tgt := 20) hx hb dX11_sure_10 rfl (fun c12 => ?_) (fun c12 => ?_)
  · have b13 : iv 0 0 r10 := iv_eqL c12 ivk_0
    have hPD9 := cl_s (wc := [(m0, .inr (11, oX11 ra (upd x0 0 0))), (ra 2, .inl (kI, 8, .inl q_told)), (ra 11, .inl (kI, 1019, .inl q_now)), (ra 15, .inl (kJ, 24, .inr (.inl q_met)))]) hP hD [2, 3, 0, 1] rfl (by decide +kernel)
    exact hJ20 (upd x0 0 0) _ _ _ ((fI_u hX (k := 0) ((iv_w ivk_0 (by decide) (by decide))))) (ivk_0) ((show x0 1 = x0 1 from rfl)) ((show x0 10 = x0 10 from rfl)) ((show x0 11 = x0 11 from rfl)) ((show x0 14 = x0 14 from rfl)) (hPD9.1) (hPD9.2) hS (lv_sub hl [0, 1, 2] rfl)
  · have b14 : iv 1 1 r10 := iv_neLo c12 w11.1 ivk_0 (by decide) (by decide)
    have b15 : iv 0 2 p0 := (w11.2).resolve_left (iv_ne b14 ivk_0 (by decide))
    refine lv_iload_n hx hb dX11_sure_13 rfl (lv_at hl 2 rfl) ?_
    obtain ⟨hPc, hDc, hFc, hJn⟩ := cl_a (wc := []) (wr := [(ra 11, .inl (kI, 1019, .inl q_now)), (ra 15, .inl (kJ, 24, .inr (.inl q_met))), (m0, .inr (11, oX11 ra (upd x0 0 0))), (ra 2, .inl (kI, 8, .inl q_told))]) hP hD hS hA [] [0, 1, 2, 3] rfl rfl (by decide +kernel)
    refine va_calli (va_runS (As := [.int p1]) (rest := []) ⟨hx, hb, hml, hown, hts⟩ (s11_isHop l dC dI kB kI kJ kZ kC kS H.size p1) (va_cwS 1 hts gX11_sure_X11_isHop rfl rfl rfl (by decide +kernel) ⟨Nat.le_of_ble_eq_true rfl, Nat.le_of_ble_eq_true rfl⟩) ⟨fun a U g mk q => by obtain ⟨q0, q1, qP, qE, qD⟩ := q; exact ⟨q0, q1, qP, kE_call qE, qD⟩, fun U hU hW => ⟨rfl, by rw [hU], by rw [hU]; exact hPc, kE_warm hW hE, hDc.weaken (fun _ _ _ _ => trivial)⟩⟩ rfl rfl hl.1 rfl (lv_room (Nat.le_of_ble_eq_true rfl)) dX11_sure_14 ⟨Nat.le_of_ble_eq_true rfl, Nat.le_of_ble_eq_true rfl⟩) hS (fun q _ h => hFc q h) hFc (fun r16 u t H locs ht hvm w17 hB hz1 hk1 hS => ?_)
    obtain ⟨hP1, hD1⟩ := hB
    try dsimp only at w17
    obtain ⟨hPa, hDa⟩ := hJn (w1 := []) hk1 ht hP1 hD1
    clear hP hD hPc hDc hFc hJn hP1 hD1 hk1
    have hP : va_P (dC, dI) vwCl [(ra 11, .inl (kI, 1019, .inl q_now)), (ra 15, .inl (kJ, 24, .inr (.inl q_met))), (m0, .inr (11, oX11 ra (upd x0 0 0))), (ra 2, .inl (kI, 8, .inl q_told))] H := hPa
    have hD : va_D A [(ra 11, .inl (kI, 1019, .inl q_now)), (ra 15, .inl (kJ, 24, .inr (.inl q_met))), (m0, .inr (11, oX11 ra (upd x0 0 0))), (ra 2, .inl (kI, 8, .inl q_told))] := hDa
    clear hPa hDa
    refine W.widen (k := 0) (n := 0) (Nat.le_of_ble_eq_true rfl) (Nat.le_of_ble_eq_true rfl) ?_
    refine lv_if_ne (tgt := 27) hx hb dX11_sure_17 rfl (fun c18 => ?_) (fun c18 => ?_)
    · have b19 : iv 1 1 r16 := iv_neLo c18 w17.1 ivk_0 (by decide) (by decide)
      have b20 : iv 1 10 p1 := (w17.2).resolve_left (iv_ne b19 ivk_0 (by decide))
      refine lv_aload_n hx hb dX11_sure_27 rfl (lv_at hl 0 rfl) ?_
      refine lv_iload_n hx hb dX11_sure_28 rfl (lv_at hl 1 rfl) ?_
      refine lv_iload_n hx hb dX11_sure_29 rfl (lv_at hl 2 rfl) ?_
      obtain ⟨hPc, hDc, hFc, hJn⟩ := cl_a (wc := [(m0, .inr (11, oX11 ra (upd x0 0 0))), (ra 11, .inl (kI, 1019, .inl q_now))]) (wr := [(ra 15, .inl (kJ, 24, .inr (.inl q_met))), (ra 2, .inl (kI, 8, .inl q_told))]) hP hD hS hA [2, 0] [1, 3] rfl rfl (by decide +kernel)
      refine va_calli (va_runV (As := [.int p0, .int p1]) (rest := []) ⟨hx, hb, hml, hown, hts⟩ (s11_addresses l dC dI kB kI kJ kZ kC kS H.size m0 ra (upd x0 0 0) q_now p0 p1 ((fI_u hX (k := 0) ((iv_w ivk_0 (by decide) (by decide))))) (hq_now) (b15) (b20)) (cwV 2 hts gX11_sure_X11_addresses rfl rfl rfl (by decide +kernel) ⟨Nat.le_of_ble_eq_true rfl, Nat.le_of_ble_eq_true rfl⟩) ⟨fun a U g mk q => by obtain ⟨q0, q1, qP, qE, qD⟩ := q; exact ⟨q0, q1, qP, kE_call qE, qD⟩, va_recv hK hP (ci := 11) (q0 := 2) rfl rfl, fun U hU hW => ⟨rfl, by rw [hU], by rw [hU]; exact hPc, kE_warm hW hE, hDc.weaken (fun _ _ _ _ => trivial)⟩⟩ rfl rfl hl.1 rfl (lv_room (Nat.le_of_ble_eq_true rfl)) dX11_sure_30 ⟨Nat.le_of_ble_eq_true rfl, Nat.le_of_ble_eq_true rfl⟩) hS (fun q _ h => hFc q h) hFc (fun r21 u t H locs ht hvm w22 hB hz1 hk1 hS => ?_)
      obtain ⟨hP1, hD1⟩ := hB
      try dsimp only at w22
      obtain ⟨hPa, hDa⟩ := hJn (w1 := [(m0, .inr (11, oX11 ra (upd x0 0 0))), (ra 11, .inl (kI, 1019, .inl q_now))]) hk1 ht hP1 hD1
      clear hP hD hPc hDc hFc hJn hP1 hD1 hk1
      have hP : va_P (dC, dI) vwCl [(ra 15, .inl (kJ, 24, .inr (.inl q_met))), (ra 2, .inl (kI, 8, .inl q_told)), (m0, .inr (11, oX11 ra (upd x0 0 0))), (ra 11, .inl (kI, 1019, .inl q_now))] H := hPa
      have hD : va_D A [(ra 15, .inl (kJ, 24, .inr (.inl q_met))), (ra 2, .inl (kI, 8, .inl q_told)), (m0, .inr (11, oX11 ra (upd x0 0 0))), (ra 11, .inl (kI, 1019, .inl q_now))] := hDa
      clear hPa hDa
      refine W.widen (k := 0) (n := 0) (Nat.le_of_ble_eq_true rfl) (Nat.le_of_ble_eq_true rfl) ?_
      obtain ⟨hPc, hDc, hFc, hJn⟩ := cl_a (wc := []) (wr := [(ra 15, .inl (kJ, 24, .inr (.inl q_met))), (ra 2, .inl (kI, 8, .inl q_told)), (m0, .inr (11, oX11 ra (upd x0 0 0))), (ra 11, .inl (kI, 1019, .inl q_now))]) hP hD hS hA [] [0, 1, 2, 3] rfl rfl (by decide +kernel)
      refine va_calli (va_runS (As := [.int r21]) (rest := []) ⟨hx, hb, hml, hown, hts⟩ (sJ_bitCount21 l dC dI kB kI kJ kZ kC kS H.size r21 (w22)) (va_cwS 1 hts gX11_sure_J6_bitCount_0f7a4 rfl rfl rfl (by decide +kernel) ⟨Nat.le_of_ble_eq_true rfl, Nat.le_of_ble_eq_true rfl⟩) ⟨fun a U g mk q => by obtain ⟨q0, q1, qP, qE, qD⟩ := q; exact ⟨q0, q1, qP, kE_call qE, qD⟩, fun U hU hW => ⟨rfl, by rw [hU], by rw [hU]; exact hPc, kE_warm hW hE, hDc.weaken (fun _ _ _ _ => trivial)⟩⟩ rfl rfl hl.1 rfl (lv_room (Nat.le_of_ble_eq_true rfl)) dX11_sure_33 ⟨Nat.le_of_ble_eq_true rfl, Nat.le_of_ble_eq_true rfl⟩) hS (fun q _ h => hFc q h) hFc (fun r23 u t H locs ht hvm w24 hB hz1 hk1 hS => ?_)
      obtain ⟨hP1, hD1⟩ := hB
      try dsimp only at w24
      obtain ⟨hPa, hDa⟩ := hJn (w1 := []) hk1 ht hP1 hD1
      clear hP hD hPc hDc hFc hJn hP1 hD1 hk1
      have hP : va_P (dC, dI) vwCl [(ra 15, .inl (kJ, 24, .inr (.inl q_met))), (ra 2, .inl (kI, 8, .inl q_told)), (m0, .inr (11, oX11 ra (upd x0 0 0))), (ra 11, .inl (kI, 1019, .inl q_now))] H := hPa
      have hD : va_D A [(ra 15, .inl (kJ, 24, .inr (.inl q_met))), (ra 2, .inl (kI, 8, .inl q_told)), (m0, .inr (11, oX11 ra (upd x0 0 0))), (ra 11, .inl (kI, 1019, .inl q_now))] := hDa
      clear hPa hDa
      refine W.widen (k := 0) (n := 0) (Nat.le_of_ble_eq_true rfl) (Nat.le_of_ble_eq_true rfl) ?_
      obtain ⟨w24, b25⟩ := w24
      subst w24
      refine lv_istore_n (lv' := [(3, .int (popT r21)), (0, .ref m0), (1, .int p0), (2, .int p1)]) hx hb dX11_sure_36 rfl hl (Nat.le_of_ble_eq_true rfl) rfl (fun ls hl => ?_)
      refine lv_iload_n hx hb dX11_sure_37 rfl (lv_at hl 0 rfl) ?_
      refine lv_if_ne (tgt := 47) hx hb dX11_sure_38 rfl (fun c26 => ?_) (fun c26 => ?_)
      · have b27 : iv 1 21 (popT r21) := iv_neLo c26 b25 ivk_0 (by decide) (by decide)
        refine lv_aload_n hx hb dX11_sure_47 rfl (lv_at hl 1 rfl) ?_
        refine lv_aload_n hx hb dX11_sure_48 rfl (lv_at hl 1 rfl) ?_
        refine va_get (D := (dC, dI)) (ci := 11) (v := .ref (ra 11)) (C := RX11) (T := TX11) (N := 61) hx hb hts hin11 hown hK hP 2 rfl rfl 12 (Nat.le_of_ble_eq_true rfl) hw_1 (fun _ h9 => h9) rfl dX11_sure_49 ?_
        refine lv_iload_n hx hb dX11_sure_52 rfl (lv_at hl 2 rfl) ?_
        refine lv_iload_n hx hb dX11_sure_53 rfl (lv_at hl 3 rfl) ?_
        obtain ⟨hPc, hDc, hFc, hJn⟩ := cl_a (wc := []) (wr := [(ra 15, .inl (kJ, 24, .inr (.inl q_met))), (ra 2, .inl (kI, 8, .inl q_told)), (m0, .inr (11, oX11 ra (upd x0 0 0))), (ra 11, .inl (kI, 1019, .inl q_now))]) hP hD hS hA [] [0, 1, 2, 3] rfl rfl (by decide +kernel)
        refine va_calli (va_runS (As := [.int p0, .int p1]) (rest := [.ref (ra 11), .ref m0]) ⟨hx, hb, hml, hown, hts⟩ (s11_sentAt l dC dI kB kI kJ kZ kC kS H.size p0 p1 (b15) (b20)) (va_cwS 2 hts gX11_sure_X11_sentAt rfl rfl rfl (by decide +kernel) ⟨Nat.le_of_ble_eq_true rfl, Nat.le_of_ble_eq_true rfl⟩) ⟨fun a U g mk q => by obtain ⟨q0, q1, qP, qE, qD⟩ := q; exact ⟨q0, q1, qP, kE_call qE, qD⟩, fun U hU hW => ⟨rfl, by rw [hU], by rw [hU]; exact hPc, kE_warm hW hE, hDc.weaken (fun _ _ _ _ => trivial)⟩⟩ rfl rfl hl.1 rfl (lv_room (Nat.le_of_ble_eq_true rfl)) dX11_sure_54 ⟨Nat.le_of_ble_eq_true rfl, Nat.le_of_ble_eq_true rfl⟩) hS (fun q _ h => hFc q h) hFc (fun r28 u t H locs ht hvm w29 hB hz1 hk1 hS => ?_)
        obtain ⟨hP1, hD1⟩ := hB
        try dsimp only at w29
        obtain ⟨hPa, hDa⟩ := hJn (w1 := []) hk1 ht hP1 hD1
        clear hP hD hPc hDc hFc hJn hP1 hD1 hk1
        have hP : va_P (dC, dI) vwCl [(ra 15, .inl (kJ, 24, .inr (.inl q_met))), (ra 2, .inl (kI, 8, .inl q_told)), (m0, .inr (11, oX11 ra (upd x0 0 0))), (ra 11, .inl (kI, 1019, .inl q_now))] H := hPa
        have hD : va_D A [(ra 15, .inl (kJ, 24, .inr (.inl q_met))), (ra 2, .inl (kI, 8, .inl q_told)), (m0, .inr (11, oX11 ra (upd x0 0 0))), (ra 11, .inl (kI, 1019, .inl q_now))] := hDa
        clear hPa hDa
        refine W.widen (k := 0) (n := 0) (Nat.le_of_ble_eq_true rfl) (Nat.le_of_ble_eq_true rfl) ?_
        refine va_iald hx hb hK hP 3 1 rfl rfl (iv_in w29 (by decide) (by decide)) dX11_sure_57 ?_
        refine lv_topi (fun z30 _ => ?_)
        refine lv_iload_n hx hb dX11_sure_58 rfl (lv_at hl 0 rfl) ?_
        refine lv_iconst (v := 1) hx hb dX11_sure_59 ic_1 ?_
        refine lv_iadd hx hb dX11_sure_60 ?_
        refine iv_top (a := 2) (b := 22) (iv_add b27 ivk_1 (by decide) (by decide) (by decide) (by decide)) (fun z31 b32 => ?_)
        obtain ⟨hPc, hDc, hFc, hJn⟩ := cl_a (wc := [(m0, .inr (11, oX11 ra (upd x0 0 0))), (ra 15, .inl (kJ, 24, .inr (.inl q_met)))]) (wr := [(ra 2, .inl (kI, 8, .inl q_told)), (ra 11, .inl (kI, 1019, .inl q_now))]) hP hD hS hA [2, 0] [1, 3] rfl rfl (by decide +kernel)
        refine va_calll (va_runV (As := [.int z30, .int z31]) (rest := []) ⟨hx, hb, hml, hown, hts⟩ (s11_missingOf l dC dI kB kI kJ kZ kC kS H.size m0 ra (upd x0 0 0) q_met z30 z31 ((fI_u hX (k := 0) ((iv_w ivk_0 (by decide) (by decide))))) ((iv_w b32 (by decide) (by decide)))) (cwV 2 hts gX11_sure_X11_missingOf rfl rfl rfl (by decide +kernel) ⟨Nat.le_of_ble_eq_true rfl, Nat.le_of_ble_eq_true rfl⟩) ⟨fun a U g mk q => by obtain ⟨q0, q1, qP, qE, qD⟩ := q; exact ⟨q0, q1, qP, kE_call qE, qD⟩, va_recv hK hP (ci := 11) (q0 := 2) rfl rfl, fun U hU hW => ⟨rfl, by rw [hU], by rw [hU]; exact hPc, kE_warm hW hE, hDc.weaken (fun _ _ _ _ => trivial)⟩⟩ rfl rfl hl.1 rfl (lv_room (Nat.le_of_ble_eq_true rfl)) dX11_sure_61 ⟨Nat.le_of_ble_eq_true rfl, Nat.le_of_ble_eq_true rfl⟩) hS (fun q _ h => hFc q h) hFc (fun r33 u t H locs ht hvm w34 hB hz1 hk1 hS => ?_)
        obtain ⟨f35, hP1, hD1⟩ := hB
        try dsimp only at w34
        obtain ⟨hPa, hDa⟩ := hJn (w1 := [(m0, .inr (11, oX11 ra (upd x0 0 0))), (ra 15, .inl (kJ, 24, .inr (.inl f35)))]) hk1 ht hP1 hD1
        clear hP hD hPc hDc hFc hJn hP1 hD1 hk1
        have hP : va_P (dC, dI) vwCl [(ra 2, .inl (kI, 8, .inl q_told)), (ra 11, .inl (kI, 1019, .inl q_now)), (m0, .inr (11, oX11 ra (upd x0 0 0))), (ra 15, .inl (kJ, 24, .inr (.inl f35)))] H := hPa
        have hD : va_D A [(ra 2, .inl (kI, 8, .inl q_told)), (ra 11, .inl (kI, 1019, .inl q_now)), (m0, .inr (11, oX11 ra (upd x0 0 0))), (ra 15, .inl (kJ, 24, .inr (.inl f35)))] := hDa
        clear hPa hDa
        refine W.widen (k := 0) (n := 0) (Nat.le_of_ble_eq_true rfl) (Nat.le_of_ble_eq_true rfl) ?_
        have hPD9 := cl_s (wc := [(m0, .inr (11, oX11 ra (upd x0 0 0))), (ra 2, .inl (kI, 8, .inl q_told)), (ra 11, .inl (kI, 1019, .inl q_now)), (ra 15, .inl (kJ, 24, .inr (.inl f35)))]) hP hD [2, 0, 1, 3] rfl (by decide +kernel)
        have hP9 := hPD9.1
        have hD9 := hPD9.2
        exact W.lret (v := r33) hx hb hr (fun t ht hW => ⟨⟨r33, (), rfl, trivial, upd x0 0 0, f35, (fI_u hX (k := 0) ((iv_w ivk_0 (by decide) (by decide)))), (show x0 1 = x0 1 from rfl), (show x0 10 = x0 10 from rfl), (show x0 11 = x0 11 from rfl), (show x0 14 = x0 14 from rfl), by rw [ht]; exact hP9, hD9⟩, hS.F ht⟩) hS.2.2 dX11_sure_64
      · have b36 : iv 0 0 (popT r21) := iv_eqL c26 ivk_0
        refine lv_ldc2 hx hb hown hw_2 dX11_sure_41 ?_
        refine lv_goto (tgt := 64) hx hb dX11_sure_44 rfl ?_
        have hPD9 := cl_s (wc := [(m0, .inr (11, oX11 ra (upd x0 0 0))), (ra 2, .inl (kI, 8, .inl q_told)), (ra 11, .inl (kI, 1019, .inl q_now)), (ra 15, .inl (kJ, 24, .inr (.inl q_met)))]) hP hD [2, 1, 3, 0] rfl (by decide +kernel)
        have hP9 := hPD9.1
        have hD9 := hPD9.2
        exact W.lret (v := 1000000000000) hx hb hr (fun t ht hW => ⟨⟨1000000000000, (), rfl, trivial, upd x0 0 0, q_met, (fI_u hX (k := 0) ((iv_w ivk_0 (by decide) (by decide)))), (show x0 1 = x0 1 from rfl), (show x0 10 = x0 10 from rfl), (show x0 11 = x0 11 from rfl), (show x0 14 = x0 14 from rfl), by rw [ht]; exact hP9, hD9⟩, hS.F ht⟩) hS.2.2 dX11_sure_64
    · have b37 : iv 0 0 r16 := iv_eqL c18 ivk_0
      have hPD9 := cl_s (wc := [(m0, .inr (11, oX11 ra (upd x0 0 0))), (ra 2, .inl (kI, 8, .inl q_told)), (ra 11, .inl (kI, 1019, .inl q_now)), (ra 15, .inl (kJ, 24, .inr (.inl q_met)))]) hP hD [2, 3, 0, 1] rfl (by decide +kernel)
      exact hJ20 (upd x0 0 0) _ _ _ ((fI_u hX (k := 0) ((iv_w ivk_0 (by decide) (by decide))))) (ivk_0) ((show x0 1 = x0 1 from rfl)) ((show x0 10 = x0 10 from rfl)) ((show x0 11 = x0 11 from rfl)) ((show x0 14 = x0 14 from rfl)) (hPD9.1) (hPD9.2) hS (lv_sub hl [0, 1, 2] rfl)
def rm_s11_missing : Room := { frames := 1, cells := 0, slots := 0, locals := 26 }
set_option maxHeartbeats 4000000 in
set_option maxRecDepth 100000 in
theorem s11_missing (l : Launch) (dC : Nat → ClassId) (dI : Nat → Nat → Nat) (kB kI kJ kZ kC kS : ClassId) (sz : Nat) (m0 : Nat) (ra : Nat → Nat) (x0 : Nat → Int32) (q_met : Nat → Int64) (p0 : Int32) (p1 : Int32) (hX : fI lX11 hX11 x0) : Met l yX11_missing wsX11_missing rm_s11_missing (va_Pc [.ref m0, .int p0, .int p1] (fun U => U.heap.size = sz ∧ va_P (dC, dI) vwCl [(m0, .inr (11, oX11 ra x0)), (ra 15, .inl (kJ, 24, .inr (.inl q_met)))] U.heap ∧ kE dC dI kB kI kJ kZ kC kS U ∧ va_D (fun _ => True) [(m0, .inr (11, oX11 ra x0)), (ra 15, .inl (kJ, 24, .inr (.inl q_met)))])) (va_Ql (fun (r : Int64) (_ : Unit) => True) (fun _ t => ∃ (x0' : Nat → Int32) (q_met' : Nat → Int64), fI lX11 hX11 x0' ∧ (x0' 1 = x0 1) ∧ (x0' 10 = x0 10) ∧ (x0' 11 = x0 11) ∧ (x0' 14 = x0 14) ∧ va_P (dC, dI) vwCl [(m0, .inr (11, oX11 ra x0')), (ra 15, .inl (kJ, 24, .inr (.inl q_met')))] t.heap ∧ va_D (va_A [(m0, .inr (11, oX11 ra x0)), (ra 15, .inl (kJ, 24, .inr (.inl q_met)))] sz) [(m0, .inr (11, oX11 ra x0')), (ra 15, .inl (kJ, 24, .inr (.inl q_met')))]) (va_A [(m0, .inr (11, oX11 ra x0)), (ra 15, .inl (kJ, 24, .inr (.inl q_met)))] sz)) 0 0 (va_A [(m0, .inr (11, oX11 ra x0)), (ra 15, .inl (kJ, 24, .inr (.inl q_met)))] sz) := by
  refine Met.ofW (cc := cX11_missing) (maxL := 3) (ret := (some .long)) (by decide) rfl ?_
  intro p e s m args0 below meth c s₁ B hml hv
  obtain ⟨hargs, hsz, hP, hE, hD0⟩ := hv
  have hx := B.exec
  have hb := B.bytes
  have hr := B.returns
  have hts := atoms_spec (ws := wsX11_missing) B.pre
  have hown : s.vm.findClass RX11 = some m.cls := findClass_of_methodNamed B.named
  have hlocks := B.notSynchronized
  have hK := hE.1
  have hin11 : ∀ w ∈ wsX110, w ∈ wsX11_missing := fun _ h9 => List.mem_cons_of_mem _ (List.mem_append_right _ h9)
  have hw_0 := hts (.fieldLink RX11 142 "PathProberModel" "code" "I") (List.mem_of_getElem? (i := 1) rfl)
  subst hsz
  have hD := hD0.self (sz := s.heap.size)
  generalize hAe : va_A [(m0, .inr (11, oX11 ra x0)), (ra 15, .inl (kJ, 24, .inr (.inl q_met)))] s.heap.size = A at hD ⊢
  have hA : ∀ q : Nat, s.heap.size ≤ q → A q := fun q h => by rw [← hAe]; exact Or.inr h
  have hS : va_S A s.heap s.heap [] := va_S.rf
  have hP : va_P (dC, dI) vwCl [(m0, .inr (11, oX11 ra x0)), (ra 15, .inl (kJ, 24, .inr (.inl q_met)))] s.heap := hP
  have hl := lv_entry ([.ref m0, .int p0, .int p1]) (n := 3) (Nat.le_of_ble_eq_true rfl)
  have hla : entryFrame m args0 3 = entryFrame m ([.ref m0, .int p0, .int p1] : List Value).toArray 3 := by rw [hargs]
  rw [hla, lg_entry_eq]
  generalize (lg_sl ([.ref m0, .int p0, .int p1]) ++ List.replicate (3 - (lg_sl ([.ref m0, .int p0, .int p1])).length) Slot.unset).toArray = ls at hl ⊢
  have hl : lv_has ls 3 [(0, .ref m0), (1, .int p0), (2, .int p1)] := hl
  have hJ33 : ∀ (y33_0 : Nat → Int32) (H : Heap) (locs : List Loc) (ls : Array Slot), fI lX11 hX11 y33_0 → iv 0 0 (y33_0 0) → (y33_0 1 = x0 1) → (y33_0 10 = x0 10) → (y33_0 11 = x0 11) → (y33_0 14 = x0 14) → va_P (dC, dI) vwCl [(m0, .inr (11, oX11 ra y33_0)), (ra 15, .inl (kJ, 24, .inr (.inl q_met)))] H → va_D A [(m0, .inr (11, oX11 ra y33_0)), (ra 15, .inl (kJ, 24, .inr (.inl q_met)))] → va_S A s.heap H locs → lv_has ls 3 [(0, .ref m0), (1, .int p0), (2, .int p1)] → W p l e (headSpec wsX11_missing rm_s11_missing).room s m args0 below meth c H locs (0) (0) (MQ below (va_Ql (fun (r : Int64) (_ : Unit) => True) (fun _ t => ∃ (x0' : Nat → Int32) (q_met' : Nat → Int64), fI lX11 hX11 x0' ∧ (x0' 1 = x0 1) ∧ (x0' 10 = x0 10) ∧ (x0' 11 = x0 11) ∧ (x0' 14 = x0 14) ∧ va_P (dC, dI) vwCl [(m0, .inr (11, oX11 ra x0')), (ra 15, .inl (kJ, 24, .inr (.inl q_met')))] t.heap ∧ va_D A [(m0, .inr (11, oX11 ra x0')), (ra 15, .inl (kJ, 24, .inr (.inl q_met')))]) A) args0 s 0 0 A) (F0 m 33 ls []) := by
    intro y33_0 H locs ls hI33_0 h33_2 htp_33 hfp_33 hor_33 hirl_33 hP hD hS hl
    refine lv_aload_n hx hb dX11_missing_33 rfl (lv_at hl 0 rfl) ?_
    refine lv_iconst (v := 1) hx hb dX11_missing_34 ic_1 ?_
    obtain ⟨hPc, hDc, hFc, hJn⟩ := cl_a (wc := [(m0, .inr (11, oX11 ra y33_0))]) (wr := [(ra 15, .inl (kJ, 24, .inr (.inl q_met)))]) hP hD hS hA [0] [1] rfl rfl (by decide +kernel)
    refine va_calli (va_runV (As := [.int 1]) (rest := []) ⟨hx, hb, hml, hown, hts⟩ (s11_fail l dC dI kB kI kJ kZ kC kS H.size m0 ra y33_0 1 (hI33_0)) (cwV 1 hts gX11_missing_X11_fail rfl rfl rfl (by decide +kernel) ⟨Nat.le_of_ble_eq_true rfl, Nat.le_of_ble_eq_true rfl⟩) ⟨fun a U g mk q => by obtain ⟨q0, q1, qP, qE, qD⟩ := q; exact ⟨q0, q1, qP, kE_call qE, qD⟩, va_recv hK hP (ci := 11) (q0 := 0) rfl rfl, fun U hU hW => ⟨rfl, by rw [hU], by rw [hU]; exact hPc, kE_warm hW hE, hDc.weaken (fun _ _ _ _ => trivial)⟩⟩ rfl rfl hl.1 rfl (lv_room (Nat.le_of_ble_eq_true rfl)) dX11_missing_35 ⟨Nat.le_of_ble_eq_true rfl, Nat.le_of_ble_eq_true rfl⟩) hS (fun q _ h => hFc q h) hFc (fun r1 u t H locs ht hvm w2 hB hz1 hk1 hS => ?_)
    obtain ⟨y3, hq4, hq5, hq6, hq7, hq8, hq9, hP1, hD1⟩ := hB
    try dsimp only at w2
    obtain ⟨hPa, hDa⟩ := hJn (w1 := [(m0, .inr (11, oX11 ra y3))]) hk1 ht hP1 hD1
    clear hP hD hPc hDc hFc hJn hP1 hD1 hk1
    have hP : va_P (dC, dI) vwCl [(ra 15, .inl (kJ, 24, .inr (.inl q_met))), (m0, .inr (11, oX11 ra y3))] H := hPa
    have hD : va_D A [(ra 15, .inl (kJ, 24, .inr (.inl q_met))), (m0, .inr (11, oX11 ra y3))] := hDa
    clear hPa hDa
    refine W.widen (k := 0) (n := 0) (Nat.le_of_ble_eq_true rfl) (Nat.le_of_ble_eq_true rfl) ?_
    obtain rfl : r1 = 0 := iv_one w2 (by decide)
    refine lv_i2l (v := 0) hx hb dX11_missing_38 (by decide) ?_
    have hPD9 := cl_s (wc := [(m0, .inr (11, oX11 ra y3)), (ra 15, .inl (kJ, 24, .inr (.inl q_met)))]) hP hD [1, 0] rfl (by decide +kernel)
    have hP9 := hPD9.1
    have hD9 := hPD9.2
    exact W.lret (v := 0) hx hb hr (fun t ht hW => ⟨⟨0, (), rfl, trivial, y3, q_met, hq4, (show y3 1 = x0 1 from hq6.trans (htp_33)), (show y3 10 = x0 10 from hq7.trans (hfp_33)), (show y3 11 = x0 11 from hq8.trans (hor_33)), (show y3 14 = x0 14 from hq9.trans (hirl_33)), by rw [ht]; exact hP9, hD9⟩, hS.F ht⟩) hS.2.2 dX11_missing_39
  refine lv_aload_n hx hb dX11_missing_0 rfl (lv_at hl 0 rfl) ?_
  refine lv_iconst (v := 0) hx hb dX11_missing_1 ic_0 ?_
  refine va_put (D := (dC, dI)) (ci := 11) (v := .int 0) (ty := .int) (C := RX11) (T := TX11) (N := 61) hx hb hts hin11 tyX11 tyX11_ok nmX11 hown hK hP hD hS 0 rfl rfl 2 (by decide) hw_0 (fun _ h9 => h9) rfl (by decide +kernel) rfl rfl (Nat.le_of_ble_eq_true rfl) dX11_missing_2 (fun H locs hPa hDa hS => ?_)
  clear hP hD
  have hP : va_P (dC, dI) vwCl [(m0, .inr (11, oX11 ra (upd x0 0 0))), (ra 15, .inl (kJ, 24, .inr (.inl q_met)))] H := hPa
  have hD : va_D A [(m0, .inr (11, oX11 ra (upd x0 0 0))), (ra 15, .inl (kJ, 24, .inr (.inl q_met)))] := hDa
  clear hPa hDa
  refine lv_iload_n hx hb dX11_missing_5 rfl (lv_at hl 1 rfl) ?_
  refine lv_iconst (v := 0) hx hb dX11_missing_6 ic_0 ?_
  refine lv_bipush (v := 60) hx hb dX11_missing_7 bp_60 ?_
  obtain ⟨hPc, hDc, hFc, hJn⟩ := cl_a (wc := []) (wr := [(m0, .inr (11, oX11 ra (upd x0 0 0))), (ra 15, .inl (kJ, 24, .inr (.inl q_met)))]) hP hD hS hA [] [0, 1] rfl rfl (by decide +kernel)
  refine va_calli (va_runS (As := [.int p0, .int 0, .int 60]) (rest := []) ⟨hx, hb, hml, hown, hts⟩ (s11_isIn l dC dI kB kI kJ kZ kC kS H.size p0 0 60) (va_cwS 3 hts gX11_missing_X11_isIn rfl rfl rfl (by decide +kernel) ⟨Nat.le_of_ble_eq_true rfl, Nat.le_of_ble_eq_true rfl⟩) ⟨fun a U g mk q => by obtain ⟨q0, q1, qP, qE, qD⟩ := q; exact ⟨q0, q1, qP, kE_call qE, qD⟩, fun U hU hW => ⟨rfl, by rw [hU], by rw [hU]; exact hPc, kE_warm hW hE, hDc.weaken (fun _ _ _ _ => trivial)⟩⟩ rfl rfl hl.1 rfl (lv_room (Nat.le_of_ble_eq_true rfl)) dX11_missing_9 ⟨Nat.le_of_ble_eq_true rfl, Nat.le_of_ble_eq_true rfl⟩) hS (fun q _ h => hFc q h) hFc (fun r10 u t H locs ht hvm w11 hB hz1 hk1 hS => ?_)
  obtain ⟨hP1, hD1⟩ := hB
  try dsimp only at w11
  obtain ⟨hPa, hDa⟩ := hJn (w1 := []) hk1 ht hP1 hD1
  clear hP hD hPc hDc hFc hJn hP1 hD1 hk1
  have hP : va_P (dC, dI) vwCl [(m0, .inr (11, oX11 ra (upd x0 0 0))), (ra 15, .inl (kJ, 24, .inr (.inl q_met)))] H := hPa
  have hD : va_D A [(m0, .inr (11, oX11 ra (upd x0 0 0))), (ra 15, .inl (kJ, 24, .inr (.inl q_met)))] := hDa
  clear hPa hDa
  refine W.widen (k := 0) (n := 0) (Nat.le_of_ble_eq_true rfl) (Nat.le_of_ble_eq_true rfl) ?_
  refine lv_if_eq (tgt := 33) hx hb dX11_missing_12 rfl (fun c12 => ?_) (fun c12 => ?_)
  · have b13 : iv 0 0 r10 := iv_eqL c12 ivk_0
    exact hJ33 (upd x0 0 0) _ _ _ ((fI_u hX (k := 0) ((iv_w ivk_0 (by decide) (by decide))))) (ivk_0) ((show x0 1 = x0 1 from rfl)) ((show x0 10 = x0 10 from rfl)) ((show x0 11 = x0 11 from rfl)) ((show x0 14 = x0 14 from rfl)) (hP) (hD) hS (lv_sub hl [0, 1, 2] rfl)
  · have b14 : iv 1 1 r10 := iv_neLo c12 w11.1 ivk_0 (by decide) (by decide)
    have hr15 := (w11.2).resolve_left (iv_ne b14 ivk_0 (by decide))
    have b16 : iv 0 60 p0 := iv_cap (in_iv hr15 ivk_0 ivk_60) (iv_t p0) (by decide) (by decide)
    refine lv_iload_n hx hb dX11_missing_15 rfl (lv_at hl 2 rfl) ?_
    refine lv_iconst (v := 1) hx hb dX11_missing_16 ic_1 ?_
    refine lv_iconst (v := 5) hx hb dX11_missing_17 ic_5 ?_
    obtain ⟨hPc, hDc, hFc, hJn⟩ := cl_a (wc := []) (wr := [(m0, .inr (11, oX11 ra (upd x0 0 0))), (ra 15, .inl (kJ, 24, .inr (.inl q_met)))]) hP hD hS hA [] [0, 1] rfl rfl (by decide +kernel)
    refine va_calli (va_runS (As := [.int p1, .int 1, .int 5]) (rest := []) ⟨hx, hb, hml, hown, hts⟩ (s11_isIn l dC dI kB kI kJ kZ kC kS H.size p1 1 5) (va_cwS 3 hts gX11_missing_X11_isIn rfl rfl rfl (by decide +kernel) ⟨Nat.le_of_ble_eq_true rfl, Nat.le_of_ble_eq_true rfl⟩) ⟨fun a U g mk q => by obtain ⟨q0, q1, qP, qE, qD⟩ := q; exact ⟨q0, q1, qP, kE_call qE, qD⟩, fun U hU hW => ⟨rfl, by rw [hU], by rw [hU]; exact hPc, kE_warm hW hE, hDc.weaken (fun _ _ _ _ => trivial)⟩⟩ rfl rfl hl.1 rfl (lv_room (Nat.le_of_ble_eq_true rfl)) dX11_missing_18 ⟨Nat.le_of_ble_eq_true rfl, Nat.le_of_ble_eq_true rfl⟩) hS (fun q _ h => hFc q h) hFc (fun r17 u t H locs ht hvm w18 hB hz1 hk1 hS => ?_)
    obtain ⟨hP1, hD1⟩ := hB
    try dsimp only at w18
    obtain ⟨hPa, hDa⟩ := hJn (w1 := []) hk1 ht hP1 hD1
    clear hP hD hPc hDc hFc hJn hP1 hD1 hk1
    have hP : va_P (dC, dI) vwCl [(m0, .inr (11, oX11 ra (upd x0 0 0))), (ra 15, .inl (kJ, 24, .inr (.inl q_met)))] H := hPa
    have hD : va_D A [(m0, .inr (11, oX11 ra (upd x0 0 0))), (ra 15, .inl (kJ, 24, .inr (.inl q_met)))] := hDa
    clear hPa hDa
    refine W.widen (k := 0) (n := 0) (Nat.le_of_ble_eq_true rfl) (Nat.le_of_ble_eq_true rfl) ?_
    refine lv_if_eq (tgt := 33) hx hb dX11_missing_21 rfl (fun c19 => ?_) (fun c19 => ?_)
    · have b20 : iv 0 0 r17 := iv_eqL c19 ivk_0
      exact hJ33 (upd x0 0 0) _ _ _ ((fI_u hX (k := 0) ((iv_w ivk_0 (by decide) (by decide))))) (ivk_0) ((show x0 1 = x0 1 from rfl)) ((show x0 10 = x0 10 from rfl)) ((show x0 11 = x0 11 from rfl)) ((show x0 14 = x0 14 from rfl)) (hP) (hD) hS (lv_sub hl [0, 1, 2] rfl)
    · have b21 : iv 1 1 r17 := iv_neLo c19 w18.1 ivk_0 (by decide) (by decide)
      have hr22 := (w18.2).resolve_left (iv_ne b21 ivk_0 (by decide))
      have b23 : iv 1 5 p1 := iv_cap (in_iv hr22 ivk_1 ivk_5) (iv_t p1) (by decide) (by decide)
      refine lv_aload_n hx hb dX11_missing_24 rfl (lv_at hl 0 rfl) ?_
      refine lv_iload_n hx hb dX11_missing_25 rfl (lv_at hl 1 rfl) ?_
      refine lv_iload_n hx hb dX11_missing_26 rfl (lv_at hl 2 rfl) ?_
      obtain ⟨hPc, hDc, hFc, hJn⟩ := cl_a (wc := [(m0, .inr (11, oX11 ra (upd x0 0 0))), (ra 15, .inl (kJ, 24, .inr (.inl q_met)))]) (wr := []) hP hD hS hA [0, 1] [] rfl rfl (by decide +kernel)
      refine va_calll (va_runV (As := [.int p0, .int p1]) (rest := []) ⟨hx, hb, hml, hown, hts⟩ (s11_missingOf l dC dI kB kI kJ kZ kC kS H.size m0 ra (upd x0 0 0) q_met p0 p1 ((fI_u hX (k := 0) ((iv_w ivk_0 (by decide) (by decide))))) ((iv_w b23 (by decide) (by decide)))) (cwV 2 hts gX11_missing_X11_missingOf rfl rfl rfl (by decide +kernel) ⟨Nat.le_of_ble_eq_true rfl, Nat.le_of_ble_eq_true rfl⟩) ⟨fun a U g mk q => by obtain ⟨q0, q1, qP, qE, qD⟩ := q; exact ⟨q0, q1, qP, kE_call qE, qD⟩, va_recv hK hP (ci := 11) (q0 := 0) rfl rfl, fun U hU hW => ⟨rfl, by rw [hU], by rw [hU]; exact hPc, kE_warm hW hE, hDc.weaken (fun _ _ _ _ => trivial)⟩⟩ rfl rfl hl.1 rfl (lv_room (Nat.le_of_ble_eq_true rfl)) dX11_missing_27 ⟨Nat.le_of_ble_eq_true rfl, Nat.le_of_ble_eq_true rfl⟩) hS (fun q _ h => hFc q h) hFc (fun r24 u t H locs ht hvm w25 hB hz1 hk1 hS => ?_)
      obtain ⟨f26, hP1, hD1⟩ := hB
      try dsimp only at w25
      obtain ⟨hPa, hDa⟩ := hJn (w1 := [(m0, .inr (11, oX11 ra (upd x0 0 0))), (ra 15, .inl (kJ, 24, .inr (.inl f26)))]) hk1 ht hP1 hD1
      clear hP hD hPc hDc hFc hJn hP1 hD1 hk1
      have hP : va_P (dC, dI) vwCl [(m0, .inr (11, oX11 ra (upd x0 0 0))), (ra 15, .inl (kJ, 24, .inr (.inl f26)))] H := hPa
      have hD : va_D A [(m0, .inr (11, oX11 ra (upd x0 0 0))), (ra 15, .inl (kJ, 24, .inr (.inl f26)))] := hDa
      clear hPa hDa
      refine W.widen (k := 0) (n := 0) (Nat.le_of_ble_eq_true rfl) (Nat.le_of_ble_eq_true rfl) ?_
      refine lv_goto (tgt := 39) hx hb dX11_missing_30 rfl ?_
      have hP9 := hP
      have hD9 := hD
      exact W.lret (v := r24) hx hb hr (fun t ht hW => ⟨⟨r24, (), rfl, trivial, upd x0 0 0, f26, (fI_u hX (k := 0) ((iv_w ivk_0 (by decide) (by decide)))), (show x0 1 = x0 1 from rfl), (show x0 10 = x0 10 from rfl), (show x0 11 = x0 11 from rfl), (show x0 14 = x0 14 from rfl), by rw [ht]; exact hP9, hD9⟩, hS.F ht⟩) hS.2.2 dX11_missing_39
def rm_s11_edge : Room := { frames := 3, cells := 0, slots := 0, locals := 71 }
set_option maxHeartbeats 4000000 in
set_option maxRecDepth 100000 in
theorem s11_edge (l : Launch) (dC : Nat → ClassId) (dI : Nat → Nat → Nat) (kB kI kJ kZ kC kS : ClassId) (sz : Nat) (m0 : Nat) (ra : Nat → Nat) (x0 : Nat → Int32) (q_told : Nat → Int32) (q_now : Nat → Int32) (p0 : Int32) (p1 : Int32) (p2 : Int32) (p3 : Int32) (hX : fI lX11 hX11 x0) (hq_told : fI lTold hTold q_told) (hq_now : fI lNow hNow q_now) : Met l yX11_edge wsX11_edge rm_s11_edge (va_Pc [.ref m0, .int p0, .int p1, .int p2, .int p3] (fun U => U.heap.size = sz ∧ va_P (dC, dI) vwCl [(m0, .inr (11, oX11 ra x0)), (ra 2, .inl (kI, 8, .inl q_told)), (ra 11, .inl (kI, 1019, .inl q_now))] U.heap ∧ kE dC dI kB kI kJ kZ kC kS U ∧ va_D (fun _ => True) [(m0, .inr (11, oX11 ra x0)), (ra 2, .inl (kI, 8, .inl q_told)), (ra 11, .inl (kI, 1019, .inl q_now))])) (va_Qi (fun (r : Int32) (_ : Unit) => iv 0 1 r) (fun _ t => ∃ (x0' : Nat → Int32), fI lX11 hX11 x0' ∧ (x0' 1 = x0 1) ∧ (x0' 10 = x0 10) ∧ (x0' 11 = x0 11) ∧ (x0' 14 = x0 14) ∧ va_P (dC, dI) vwCl [(m0, .inr (11, oX11 ra x0')), (ra 2, .inl (kI, 8, .inl q_told)), (ra 11, .inl (kI, 1019, .inl q_now))] t.heap ∧ va_D (va_A [(m0, .inr (11, oX11 ra x0)), (ra 2, .inl (kI, 8, .inl q_told)), (ra 11, .inl (kI, 1019, .inl q_now))] sz) [(m0, .inr (11, oX11 ra x0')), (ra 2, .inl (kI, 8, .inl q_told)), (ra 11, .inl (kI, 1019, .inl q_now))]) (va_A [(m0, .inr (11, oX11 ra x0)), (ra 2, .inl (kI, 8, .inl q_told)), (ra 11, .inl (kI, 1019, .inl q_now))] sz)) 0 0 (va_A [(m0, .inr (11, oX11 ra x0)), (ra 2, .inl (kI, 8, .inl q_told)), (ra 11, .inl (kI, 1019, .inl q_now))] sz) := by
  refine Met.ofW (cc := cX11_edge) (maxL := 6) (ret := (some .int)) (by decide) rfl ?_
  intro p e s m args0 below meth c s₁ B hml hv
  obtain ⟨hargs, hsz, hP, hE, hD0⟩ := hv
  have hx := B.exec
  have hb := B.bytes
  have hr := B.returns
  have hts := atoms_spec (ws := wsX11_edge) B.pre
  have hown : s.vm.findClass RX11 = some m.cls := findClass_of_methodNamed B.named
  have hlocks := B.notSynchronized
  have hK := hE.1
  have hin11 : ∀ w ∈ wsX110, w ∈ wsX11_edge := fun _ h9 => List.mem_cons_of_mem _ (List.mem_append_right _ h9)
  have hw_0 := hts (.fieldLink RX11 142 "PathProberModel" "code" "I") (List.mem_of_getElem? (i := 1) rfl)
  subst hsz
  have hD := hD0.self (sz := s.heap.size)
  generalize hAe : va_A [(m0, .inr (11, oX11 ra x0)), (ra 2, .inl (kI, 8, .inl q_told)), (ra 11, .inl (kI, 1019, .inl q_now))] s.heap.size = A at hD ⊢
  have hA : ∀ q : Nat, s.heap.size ≤ q → A q := fun q h => by rw [← hAe]; exact Or.inr h
  have hS : va_S A s.heap s.heap [] := va_S.rf
  have hP : va_P (dC, dI) vwCl [(m0, .inr (11, oX11 ra x0)), (ra 2, .inl (kI, 8, .inl q_told)), (ra 11, .inl (kI, 1019, .inl q_now))] s.heap := hP
  have hl := lv_entry ([.ref m0, .int p0, .int p1, .int p2, .int p3]) (n := 6) (Nat.le_of_ble_eq_true rfl)
  have hla : entryFrame m args0 6 = entryFrame m ([.ref m0, .int p0, .int p1, .int p2, .int p3] : List Value).toArray 6 := by rw [hargs]
  rw [hla, lg_entry_eq]
  generalize (lg_sl ([.ref m0, .int p0, .int p1, .int p2, .int p3]) ++ List.replicate (6 - (lg_sl ([.ref m0, .int p0, .int p1, .int p2, .int p3])).length) Slot.unset).toArray = ls at hl ⊢
  have hl : lv_has ls 6 [(0, .ref m0), (1, .int p0), (2, .int p1), (3, .int p2), (4, .int p3)] := hl
  refine lv_aload_n hx hb dX11_edge_0 rfl (lv_at hl 0 rfl) ?_
  refine lv_iconst (v := 0) hx hb dX11_edge_1 ic_0 ?_
  refine va_put (D := (dC, dI)) (ci := 11) (v := .int 0) (ty := .int) (C := RX11) (T := TX11) (N := 61) hx hb hts hin11 tyX11 tyX11_ok nmX11 hown hK hP hD hS 0 rfl rfl 2 (by decide) hw_0 (fun _ h9 => h9) rfl (by decide +kernel) rfl rfl (Nat.le_of_ble_eq_true rfl) dX11_edge_2 (fun H locs hPa hDa hS => ?_)
  clear hP hD
  have hP : va_P (dC, dI) vwCl [(m0, .inr (11, oX11 ra (upd x0 0 0))), (ra 2, .inl (kI, 8, .inl q_told)), (ra 11, .inl (kI, 1019, .inl q_now))] H := hPa
  have hD : va_D A [(m0, .inr (11, oX11 ra (upd x0 0 0))), (ra 2, .inl (kI, 8, .inl q_told)), (ra 11, .inl (kI, 1019, .inl q_now))] := hDa
  clear hPa hDa
  refine lv_aload_n hx hb dX11_edge_5 rfl (lv_at hl 0 rfl) ?_
  refine lv_iload_n hx hb dX11_edge_6 rfl (lv_at hl 1 rfl) ?_
  obtain ⟨hPc, hDc, hFc, hJn⟩ := cl_a (wc := [(m0, .inr (11, oX11 ra (upd x0 0 0))), (ra 2, .inl (kI, 8, .inl q_told))]) (wr := [(ra 11, .inl (kI, 1019, .inl q_now))]) hP hD hS hA [0, 1] [2] rfl rfl (by decide +kernel)
  refine va_calli (va_runV (As := [.int p0]) (rest := []) ⟨hx, hb, hml, hown, hts⟩ (s11_isGoal l dC dI kB kI kJ kZ kC kS H.size m0 ra (upd x0 0 0) q_told p0 ((fI_u hX (k := 0) ((iv_w ivk_0 (by decide) (by decide))))) (hq_told)) (cwV 1 hts gX11_edge_X11_isGoal rfl rfl rfl (by decide +kernel) ⟨Nat.le_of_ble_eq_true rfl, Nat.le_of_ble_eq_true rfl⟩) ⟨fun a U g mk q => by obtain ⟨q0, q1, qP, qE, qD⟩ := q; exact ⟨q0, q1, qP, kE_call qE, qD⟩, va_recv hK hP (ci := 11) (q0 := 0) rfl rfl, fun U hU hW => ⟨rfl, by rw [hU], by rw [hU]; exact hPc, kE_warm hW hE, hDc.weaken (fun _ _ _ _ => trivial)⟩⟩ rfl rfl hl.1 rfl (lv_room (Nat.le_of_ble_eq_true rfl)) dX11_edge_7 ⟨Nat.le_of_ble_eq_true rfl, Nat.le_of_ble_eq_true rfl⟩) hS (fun q _ h => hFc q h) hFc (fun r1 u t H locs ht hvm w2 hB hz1 hk1 hS => ?_)
  obtain ⟨hP1, hD1⟩ := hB
  try dsimp only at w2
  obtain ⟨hPa, hDa⟩ := hJn (w1 := [(m0, .inr (11, oX11 ra (upd x0 0 0))), (ra 2, .inl (kI, 8, .inl q_told))]) hk1 ht hP1 hD1
  clear hP hD hPc hDc hFc hJn hP1 hD1 hk1
  have hP : va_P (dC, dI) vwCl [(ra 11, .inl (kI, 1019, .inl q_now)), (m0, .inr (11, oX11 ra (upd x0 0 0))), (ra 2, .inl (kI, 8, .inl q_told))] H := hPa
  have hD : va_D A [(ra 11, .inl (kI, 1019, .inl q_now)), (m0, .inr (11, oX11 ra (upd x0 0 0))), (ra 2, .inl (kI, 8, .inl q_told))] := hDa
  clear hPa hDa
  refine W.widen (k := 0) (n := 0) (Nat.le_of_ble_eq_true rfl) (Nat.le_of_ble_eq_true rfl) ?_
  refine lv_if_eq (tgt := 44) hx hb dX11_edge_10 rfl (fun c3 => ?_) (fun c3 => ?_)
  · have b4 : iv 0 0 r1 := iv_eqL c3 ivk_0
    refine lv_iconst (v := 0) hx hb dX11_edge_44 ic_0 ?_
    refine lv_istore (lv' := [(5, .int 0), (0, .ref m0), (1, .int p0), (2, .int p1), (3, .int p2), (4, .int p3)]) hx hb dX11_edge_45 hl (Nat.le_of_ble_eq_true rfl) rfl (fun ls hl => ?_)
    refine lv_iload hx hb dX11_edge_47 (lv_at hl 0 rfl) ?_
    refine lv_if_eq (tgt := 72) hx hb dX11_edge_49 rfl (fun _ => ?_) (fun c9 => absurd (by decide) c9)
    refine lv_aload_n hx hb dX11_edge_72 rfl (lv_at hl 1 rfl) ?_
    refine lv_iconst (v := 1) hx hb dX11_edge_73 ic_1 ?_
    obtain ⟨hPc, hDc, hFc, hJn⟩ := cl_a (wc := [(m0, .inr (11, oX11 ra (upd x0 0 0)))]) (wr := [(ra 11, .inl (kI, 1019, .inl q_now)), (ra 2, .inl (kI, 8, .inl q_told))]) hP hD hS hA [1] [0, 2] rfl rfl (by decide +kernel)
    refine va_calli (va_runV (As := [.int 1]) (rest := []) ⟨hx, hb, hml, hown, hts⟩ (s11_fail l dC dI kB kI kJ kZ kC kS H.size m0 ra (upd x0 0 0) 1 ((fI_u hX (k := 0) ((iv_w ivk_0 (by decide) (by decide)))))) (cwV 1 hts gX11_edge_X11_fail rfl rfl rfl (by decide +kernel) ⟨Nat.le_of_ble_eq_true rfl, Nat.le_of_ble_eq_true rfl⟩) ⟨fun a U g mk q => by obtain ⟨q0, q1, qP, qE, qD⟩ := q; exact ⟨q0, q1, qP, kE_call qE, qD⟩, va_recv hK hP (ci := 11) (q0 := 1) rfl rfl, fun U hU hW => ⟨rfl, by rw [hU], by rw [hU]; exact hPc, kE_warm hW hE, hDc.weaken (fun _ _ _ _ => trivial)⟩⟩ rfl rfl hl.1 rfl (lv_room (Nat.le_of_ble_eq_true rfl)) dX11_edge_74 ⟨Nat.le_of_ble_eq_true rfl, Nat.le_of_ble_eq_true rfl⟩) hS (fun q _ h => hFc q h) hFc (fun r5 u t H locs ht hvm w6 hB hz1 hk1 hS => ?_)
    obtain ⟨y7, hq8, hq9, hq10, hq11, hq12, hq13, hP1, hD1⟩ := hB
    try dsimp only at w6
    obtain ⟨hPa, hDa⟩ := hJn (w1 := [(m0, .inr (11, oX11 ra y7))]) hk1 ht hP1 hD1
    clear hP hD hPc hDc hFc hJn hP1 hD1 hk1
    have hP : va_P (dC, dI) vwCl [(ra 11, .inl (kI, 1019, .inl q_now)), (ra 2, .inl (kI, 8, .inl q_told)), (m0, .inr (11, oX11 ra y7))] H := hPa
    have hD : va_D A [(ra 11, .inl (kI, 1019, .inl q_now)), (ra 2, .inl (kI, 8, .inl q_told)), (m0, .inr (11, oX11 ra y7))] := hDa
    clear hPa hDa
    refine W.widen (k := 0) (n := 0) (Nat.le_of_ble_eq_true rfl) (Nat.le_of_ble_eq_true rfl) ?_
    obtain rfl : r5 = 0 := iv_one w6 (by decide)
    have hPD9 := cl_s (wc := [(m0, .inr (11, oX11 ra y7)), (ra 2, .inl (kI, 8, .inl q_told)), (ra 11, .inl (kI, 1019, .inl q_now))]) hP hD [2, 1, 0] rfl (by decide +kernel)
    have hP9 := hPD9.1
    have hD9 := hPD9.2
    exact W.iret (v := 0) hx hb hr (fun t ht hW => ⟨⟨0, (), rfl, (iv_w ivk_0 (by decide) (by decide)), y7, hq8, (show y7 1 = x0 1 from hq10), (show y7 10 = x0 10 from hq11), (show y7 11 = x0 11 from hq12), (show y7 14 = x0 14 from hq13), by rw [ht]; exact hP9, hD9⟩, hS.F ht⟩) hS.2.2 dX11_edge_77
  · have b14 : iv 1 1 r1 := iv_neLo c3 w2.1 ivk_0 (by decide) (by decide)
    have b15 : iv 0 2 p0 := (w2.2).resolve_left (iv_ne b14 ivk_0 (by decide))
    refine lv_iload_n hx hb dX11_edge_13 rfl (lv_at hl 2 rfl) ?_
    refine lv_iconst (v := 1) hx hb dX11_edge_14 ic_1 ?_
    refine lv_bipush (v := 9) hx hb dX11_edge_15 bp_9 ?_
    obtain ⟨hPc, hDc, hFc, hJn⟩ := cl_a (wc := []) (wr := [(ra 11, .inl (kI, 1019, .inl q_now)), (m0, .inr (11, oX11 ra (upd x0 0 0))), (ra 2, .inl (kI, 8, .inl q_told))]) hP hD hS hA [] [0, 1, 2] rfl rfl (by decide +kernel)
    refine va_calli (va_runS (As := [.int p1, .int 1, .int 9]) (rest := []) ⟨hx, hb, hml, hown, hts⟩ (s11_isIn l dC dI kB kI kJ kZ kC kS H.size p1 1 9) (va_cwS 3 hts gX11_edge_X11_isIn rfl rfl rfl (by decide +kernel) ⟨Nat.le_of_ble_eq_true rfl, Nat.le_of_ble_eq_true rfl⟩) ⟨fun a U g mk q => by obtain ⟨q0, q1, qP, qE, qD⟩ := q; exact ⟨q0, q1, qP, kE_call qE, qD⟩, fun U hU hW => ⟨rfl, by rw [hU], by rw [hU]; exact hPc, kE_warm hW hE, hDc.weaken (fun _ _ _ _ => trivial)⟩⟩ rfl rfl hl.1 rfl (lv_room (Nat.le_of_ble_eq_true rfl)) dX11_edge_17 ⟨Nat.le_of_ble_eq_true rfl, Nat.le_of_ble_eq_true rfl⟩) hS (fun q _ h => hFc q h) hFc (fun r16 u t H locs ht hvm w17 hB hz1 hk1 hS => ?_)
    obtain ⟨hP1, hD1⟩ := hB
    try dsimp only at w17
    obtain ⟨hPa, hDa⟩ := hJn (w1 := []) hk1 ht hP1 hD1
    clear hP hD hPc hDc hFc hJn hP1 hD1 hk1
    have hP : va_P (dC, dI) vwCl [(ra 11, .inl (kI, 1019, .inl q_now)), (m0, .inr (11, oX11 ra (upd x0 0 0))), (ra 2, .inl (kI, 8, .inl q_told))] H := hPa
    have hD : va_D A [(ra 11, .inl (kI, 1019, .inl q_now)), (m0, .inr (11, oX11 ra (upd x0 0 0))), (ra 2, .inl (kI, 8, .inl q_told))] := hDa
    clear hPa hDa
    refine W.widen (k := 0) (n := 0) (Nat.le_of_ble_eq_true rfl) (Nat.le_of_ble_eq_true rfl) ?_
    refine lv_if_eq (tgt := 44) hx hb dX11_edge_20 rfl (fun c18 => ?_) (fun c18 => ?_)
    · have b19 : iv 0 0 r16 := iv_eqL c18 ivk_0
      refine lv_iconst (v := 0) hx hb dX11_edge_44 ic_0 ?_
      refine lv_istore (lv' := [(5, .int 0), (0, .ref m0), (1, .int p0), (2, .int p1), (3, .int p2), (4, .int p3)]) hx hb dX11_edge_45 hl (Nat.le_of_ble_eq_true rfl) rfl (fun ls hl => ?_)
      refine lv_iload hx hb dX11_edge_47 (lv_at hl 0 rfl) ?_
      refine lv_if_eq (tgt := 72) hx hb dX11_edge_49 rfl (fun _ => ?_) (fun c9 => absurd (by decide) c9)
      refine lv_aload_n hx hb dX11_edge_72 rfl (lv_at hl 1 rfl) ?_
      refine lv_iconst (v := 1) hx hb dX11_edge_73 ic_1 ?_
      obtain ⟨hPc, hDc, hFc, hJn⟩ := cl_a (wc := [(m0, .inr (11, oX11 ra (upd x0 0 0)))]) (wr := [(ra 11, .inl (kI, 1019, .inl q_now)), (ra 2, .inl (kI, 8, .inl q_told))]) hP hD hS hA [1] [0, 2] rfl rfl (by decide +kernel)
      refine va_calli (va_runV (As := [.int 1]) (rest := []) ⟨hx, hb, hml, hown, hts⟩ (s11_fail l dC dI kB kI kJ kZ kC kS H.size m0 ra (upd x0 0 0) 1 ((fI_u hX (k := 0) ((iv_w ivk_0 (by decide) (by decide)))))) (cwV 1 hts gX11_edge_X11_fail rfl rfl rfl (by decide +kernel) ⟨Nat.le_of_ble_eq_true rfl, Nat.le_of_ble_eq_true rfl⟩) ⟨fun a U g mk q => by obtain ⟨q0, q1, qP, qE, qD⟩ := q; exact ⟨q0, q1, qP, kE_call qE, qD⟩, va_recv hK hP (ci := 11) (q0 := 1) rfl rfl, fun U hU hW => ⟨rfl, by rw [hU], by rw [hU]; exact hPc, kE_warm hW hE, hDc.weaken (fun _ _ _ _ => trivial)⟩⟩ rfl rfl hl.1 rfl (lv_room (Nat.le_of_ble_eq_true rfl)) dX11_edge_74 ⟨Nat.le_of_ble_eq_true rfl, Nat.le_of_ble_eq_true rfl⟩) hS (fun q _ h => hFc q h) hFc (fun r20 u t H locs ht hvm w21 hB hz1 hk1 hS => ?_)
      obtain ⟨y22, hq23, hq24, hq25, hq26, hq27, hq28, hP1, hD1⟩ := hB
      try dsimp only at w21
      obtain ⟨hPa, hDa⟩ := hJn (w1 := [(m0, .inr (11, oX11 ra y22))]) hk1 ht hP1 hD1
      clear hP hD hPc hDc hFc hJn hP1 hD1 hk1
      have hP : va_P (dC, dI) vwCl [(ra 11, .inl (kI, 1019, .inl q_now)), (ra 2, .inl (kI, 8, .inl q_told)), (m0, .inr (11, oX11 ra y22))] H := hPa
      have hD : va_D A [(ra 11, .inl (kI, 1019, .inl q_now)), (ra 2, .inl (kI, 8, .inl q_told)), (m0, .inr (11, oX11 ra y22))] := hDa
      clear hPa hDa
      refine W.widen (k := 0) (n := 0) (Nat.le_of_ble_eq_true rfl) (Nat.le_of_ble_eq_true rfl) ?_
      obtain rfl : r20 = 0 := iv_one w21 (by decide)
      have hPD9 := cl_s (wc := [(m0, .inr (11, oX11 ra y22)), (ra 2, .inl (kI, 8, .inl q_told)), (ra 11, .inl (kI, 1019, .inl q_now))]) hP hD [2, 1, 0] rfl (by decide +kernel)
      have hP9 := hPD9.1
      have hD9 := hPD9.2
      exact W.iret (v := 0) hx hb hr (fun t ht hW => ⟨⟨0, (), rfl, (iv_w ivk_0 (by decide) (by decide)), y22, hq23, (show y22 1 = x0 1 from hq25), (show y22 10 = x0 10 from hq26), (show y22 11 = x0 11 from hq27), (show y22 14 = x0 14 from hq28), by rw [ht]; exact hP9, hD9⟩, hS.F ht⟩) hS.2.2 dX11_edge_77
    · have b29 : iv 1 1 r16 := iv_neLo c18 w17.1 ivk_0 (by decide) (by decide)
      have hr30 := (w17.2).resolve_left (iv_ne b29 ivk_0 (by decide))
      have b31 : iv 1 9 p1 := iv_cap (in_iv hr30 ivk_1 ivk_9) (iv_t p1) (by decide) (by decide)
      refine lv_aload_n hx hb dX11_edge_23 rfl (lv_at hl 0 rfl) ?_
      refine lv_iload_n hx hb dX11_edge_24 rfl (lv_at hl 3 rfl) ?_
      obtain ⟨hPc, hDc, hFc, hJn⟩ := cl_a (wc := [(m0, .inr (11, oX11 ra (upd x0 0 0))), (ra 2, .inl (kI, 8, .inl q_told))]) (wr := [(ra 11, .inl (kI, 1019, .inl q_now))]) hP hD hS hA [1, 2] [0] rfl rfl (by decide +kernel)
      refine va_calli (va_runV (As := [.int p2]) (rest := []) ⟨hx, hb, hml, hown, hts⟩ (s11_isAddress l dC dI kB kI kJ kZ kC kS H.size m0 ra (upd x0 0 0) q_told p2 ((fI_u hX (k := 0) ((iv_w ivk_0 (by decide) (by decide))))) (hq_told)) (cwV 1 hts gX11_edge_X11_isAddress rfl rfl rfl (by decide +kernel) ⟨Nat.le_of_ble_eq_true rfl, Nat.le_of_ble_eq_true rfl⟩) ⟨fun a U g mk q => by obtain ⟨q0, q1, qP, qE, qD⟩ := q; exact ⟨q0, q1, qP, kE_call qE, qD⟩, va_recv hK hP (ci := 11) (q0 := 1) rfl rfl, fun U hU hW => ⟨rfl, by rw [hU], by rw [hU]; exact hPc, kE_warm hW hE, hDc.weaken (fun _ _ _ _ => trivial)⟩⟩ rfl rfl hl.1 rfl (lv_room (Nat.le_of_ble_eq_true rfl)) dX11_edge_25 ⟨Nat.le_of_ble_eq_true rfl, Nat.le_of_ble_eq_true rfl⟩) hS (fun q _ h => hFc q h) hFc (fun r32 u t H locs ht hvm w33 hB hz1 hk1 hS => ?_)
      obtain ⟨hP1, hD1⟩ := hB
      try dsimp only at w33
      obtain ⟨hPa, hDa⟩ := hJn (w1 := [(m0, .inr (11, oX11 ra (upd x0 0 0))), (ra 2, .inl (kI, 8, .inl q_told))]) hk1 ht hP1 hD1
      clear hP hD hPc hDc hFc hJn hP1 hD1 hk1
      have hP : va_P (dC, dI) vwCl [(ra 11, .inl (kI, 1019, .inl q_now)), (m0, .inr (11, oX11 ra (upd x0 0 0))), (ra 2, .inl (kI, 8, .inl q_told))] H := hPa
      have hD : va_D A [(ra 11, .inl (kI, 1019, .inl q_now)), (m0, .inr (11, oX11 ra (upd x0 0 0))), (ra 2, .inl (kI, 8, .inl q_told))] := hDa
      clear hPa hDa
      refine W.widen (k := 0) (n := 0) (Nat.le_of_ble_eq_true rfl) (Nat.le_of_ble_eq_true rfl) ?_
      refine lv_if_eq (tgt := 44) hx hb dX11_edge_28 rfl (fun c34 => ?_) (fun c34 => ?_)
      · have b35 : iv 0 0 r32 := iv_eqL c34 ivk_0
        refine lv_iconst (v := 0) hx hb dX11_edge_44 ic_0 ?_
        refine lv_istore (lv' := [(5, .int 0), (0, .ref m0), (1, .int p0), (2, .int p1), (3, .int p2), (4, .int p3)]) hx hb dX11_edge_45 hl (Nat.le_of_ble_eq_true rfl) rfl (fun ls hl => ?_)
        refine lv_iload hx hb dX11_edge_47 (lv_at hl 0 rfl) ?_
        refine lv_if_eq (tgt := 72) hx hb dX11_edge_49 rfl (fun _ => ?_) (fun c9 => absurd (by decide) c9)
        refine lv_aload_n hx hb dX11_edge_72 rfl (lv_at hl 1 rfl) ?_
        refine lv_iconst (v := 1) hx hb dX11_edge_73 ic_1 ?_
        obtain ⟨hPc, hDc, hFc, hJn⟩ := cl_a (wc := [(m0, .inr (11, oX11 ra (upd x0 0 0)))]) (wr := [(ra 11, .inl (kI, 1019, .inl q_now)), (ra 2, .inl (kI, 8, .inl q_told))]) hP hD hS hA [1] [0, 2] rfl rfl (by decide +kernel)
        refine va_calli (va_runV (As := [.int 1]) (rest := []) ⟨hx, hb, hml, hown, hts⟩ (s11_fail l dC dI kB kI kJ kZ kC kS H.size m0 ra (upd x0 0 0) 1 ((fI_u hX (k := 0) ((iv_w ivk_0 (by decide) (by decide)))))) (cwV 1 hts gX11_edge_X11_fail rfl rfl rfl (by decide +kernel) ⟨Nat.le_of_ble_eq_true rfl, Nat.le_of_ble_eq_true rfl⟩) ⟨fun a U g mk q => by obtain ⟨q0, q1, qP, qE, qD⟩ := q; exact ⟨q0, q1, qP, kE_call qE, qD⟩, va_recv hK hP (ci := 11) (q0 := 1) rfl rfl, fun U hU hW => ⟨rfl, by rw [hU], by rw [hU]; exact hPc, kE_warm hW hE, hDc.weaken (fun _ _ _ _ => trivial)⟩⟩ rfl rfl hl.1 rfl (lv_room (Nat.le_of_ble_eq_true rfl)) dX11_edge_74 ⟨Nat.le_of_ble_eq_true rfl, Nat.le_of_ble_eq_true rfl⟩) hS (fun q _ h => hFc q h) hFc (fun r36 u t H locs ht hvm w37 hB hz1 hk1 hS => ?_)
        obtain ⟨y38, hq39, hq40, hq41, hq42, hq43, hq44, hP1, hD1⟩ := hB
        try dsimp only at w37
        obtain ⟨hPa, hDa⟩ := hJn (w1 := [(m0, .inr (11, oX11 ra y38))]) hk1 ht hP1 hD1
        clear hP hD hPc hDc hFc hJn hP1 hD1 hk1
        have hP : va_P (dC, dI) vwCl [(ra 11, .inl (kI, 1019, .inl q_now)), (ra 2, .inl (kI, 8, .inl q_told)), (m0, .inr (11, oX11 ra y38))] H := hPa
        have hD : va_D A [(ra 11, .inl (kI, 1019, .inl q_now)), (ra 2, .inl (kI, 8, .inl q_told)), (m0, .inr (11, oX11 ra y38))] := hDa
        clear hPa hDa
        refine W.widen (k := 0) (n := 0) (Nat.le_of_ble_eq_true rfl) (Nat.le_of_ble_eq_true rfl) ?_
        obtain rfl : r36 = 0 := iv_one w37 (by decide)
        have hPD9 := cl_s (wc := [(m0, .inr (11, oX11 ra y38)), (ra 2, .inl (kI, 8, .inl q_told)), (ra 11, .inl (kI, 1019, .inl q_now))]) hP hD [2, 1, 0] rfl (by decide +kernel)
        have hP9 := hPD9.1
        have hD9 := hPD9.2
        exact W.iret (v := 0) hx hb hr (fun t ht hW => ⟨⟨0, (), rfl, (iv_w ivk_0 (by decide) (by decide)), y38, hq39, (show y38 1 = x0 1 from hq41), (show y38 10 = x0 10 from hq42), (show y38 11 = x0 11 from hq43), (show y38 14 = x0 14 from hq44), by rw [ht]; exact hP9, hD9⟩, hS.F ht⟩) hS.2.2 dX11_edge_77
      · have b45 : iv 1 1 r32 := iv_neLo c34 w33.1 ivk_0 (by decide) (by decide)
        have b46 : iv 0 20 p2 := (w33.2).resolve_left (iv_ne b45 ivk_0 (by decide))
        refine lv_aload_n hx hb dX11_edge_31 rfl (lv_at hl 0 rfl) ?_
        refine lv_iload hx hb dX11_edge_32 (lv_at hl 4 rfl) ?_
        obtain ⟨hPc, hDc, hFc, hJn⟩ := cl_a (wc := [(m0, .inr (11, oX11 ra (upd x0 0 0))), (ra 2, .inl (kI, 8, .inl q_told))]) (wr := [(ra 11, .inl (kI, 1019, .inl q_now))]) hP hD hS hA [1, 2] [0] rfl rfl (by decide +kernel)
        refine va_calli (va_runV (As := [.int p3]) (rest := []) ⟨hx, hb, hml, hown, hts⟩ (s11_isAddress l dC dI kB kI kJ kZ kC kS H.size m0 ra (upd x0 0 0) q_told p3 ((fI_u hX (k := 0) ((iv_w ivk_0 (by decide) (by decide))))) (hq_told)) (cwV 1 hts gX11_edge_X11_isAddress rfl rfl rfl (by decide +kernel) ⟨Nat.le_of_ble_eq_true rfl, Nat.le_of_ble_eq_true rfl⟩) ⟨fun a U g mk q => by obtain ⟨q0, q1, qP, qE, qD⟩ := q; exact ⟨q0, q1, qP, kE_call qE, qD⟩, va_recv hK hP (ci := 11) (q0 := 1) rfl rfl, fun U hU hW => ⟨rfl, by rw [hU], by rw [hU]; exact hPc, kE_warm hW hE, hDc.weaken (fun _ _ _ _ => trivial)⟩⟩ rfl rfl hl.1 rfl (lv_room (Nat.le_of_ble_eq_true rfl)) dX11_edge_34 ⟨Nat.le_of_ble_eq_true rfl, Nat.le_of_ble_eq_true rfl⟩) hS (fun q _ h => hFc q h) hFc (fun r47 u t H locs ht hvm w48 hB hz1 hk1 hS => ?_)
        obtain ⟨hP1, hD1⟩ := hB
        try dsimp only at w48
        obtain ⟨hPa, hDa⟩ := hJn (w1 := [(m0, .inr (11, oX11 ra (upd x0 0 0))), (ra 2, .inl (kI, 8, .inl q_told))]) hk1 ht hP1 hD1
        clear hP hD hPc hDc hFc hJn hP1 hD1 hk1
        have hP : va_P (dC, dI) vwCl [(ra 11, .inl (kI, 1019, .inl q_now)), (m0, .inr (11, oX11 ra (upd x0 0 0))), (ra 2, .inl (kI, 8, .inl q_told))] H := hPa
        have hD : va_D A [(ra 11, .inl (kI, 1019, .inl q_now)), (m0, .inr (11, oX11 ra (upd x0 0 0))), (ra 2, .inl (kI, 8, .inl q_told))] := hDa
        clear hPa hDa
        refine W.widen (k := 0) (n := 0) (Nat.le_of_ble_eq_true rfl) (Nat.le_of_ble_eq_true rfl) ?_
        refine lv_if_eq (tgt := 44) hx hb dX11_edge_37 rfl (fun c49 => ?_) (fun c49 => ?_)
        · have b50 : iv 0 0 r47 := iv_eqL c49 ivk_0
          refine lv_iconst (v := 0) hx hb dX11_edge_44 ic_0 ?_
          refine lv_istore (lv' := [(5, .int 0), (0, .ref m0), (1, .int p0), (2, .int p1), (3, .int p2), (4, .int p3)]) hx hb dX11_edge_45 hl (Nat.le_of_ble_eq_true rfl) rfl (fun ls hl => ?_)
          refine lv_iload hx hb dX11_edge_47 (lv_at hl 0 rfl) ?_
          refine lv_if_eq (tgt := 72) hx hb dX11_edge_49 rfl (fun _ => ?_) (fun c9 => absurd (by decide) c9)
          refine lv_aload_n hx hb dX11_edge_72 rfl (lv_at hl 1 rfl) ?_
          refine lv_iconst (v := 1) hx hb dX11_edge_73 ic_1 ?_
          obtain ⟨hPc, hDc, hFc, hJn⟩ := cl_a (wc := [(m0, .inr (11, oX11 ra (upd x0 0 0)))]) (wr := [(ra 11, .inl (kI, 1019, .inl q_now)), (ra 2, .inl (kI, 8, .inl q_told))]) hP hD hS hA [1] [0, 2] rfl rfl (by decide +kernel)
          refine va_calli (va_runV (As := [.int 1]) (rest := []) ⟨hx, hb, hml, hown, hts⟩ (s11_fail l dC dI kB kI kJ kZ kC kS H.size m0 ra (upd x0 0 0) 1 ((fI_u hX (k := 0) ((iv_w ivk_0 (by decide) (by decide)))))) (cwV 1 hts gX11_edge_X11_fail rfl rfl rfl (by decide +kernel) ⟨Nat.le_of_ble_eq_true rfl, Nat.le_of_ble_eq_true rfl⟩) ⟨fun a U g mk q => by obtain ⟨q0, q1, qP, qE, qD⟩ := q; exact ⟨q0, q1, qP, kE_call qE, qD⟩, va_recv hK hP (ci := 11) (q0 := 1) rfl rfl, fun U hU hW => ⟨rfl, by rw [hU], by rw [hU]; exact hPc, kE_warm hW hE, hDc.weaken (fun _ _ _ _ => trivial)⟩⟩ rfl rfl hl.1 rfl (lv_room (Nat.le_of_ble_eq_true rfl)) dX11_edge_74 ⟨Nat.le_of_ble_eq_true rfl, Nat.le_of_ble_eq_true rfl⟩) hS (fun q _ h => hFc q h) hFc (fun r51 u t H locs ht hvm w52 hB hz1 hk1 hS => ?_)
          obtain ⟨y53, hq54, hq55, hq56, hq57, hq58, hq59, hP1, hD1⟩ := hB
          try dsimp only at w52
          obtain ⟨hPa, hDa⟩ := hJn (w1 := [(m0, .inr (11, oX11 ra y53))]) hk1 ht hP1 hD1
          clear hP hD hPc hDc hFc hJn hP1 hD1 hk1
          have hP : va_P (dC, dI) vwCl [(ra 11, .inl (kI, 1019, .inl q_now)), (ra 2, .inl (kI, 8, .inl q_told)), (m0, .inr (11, oX11 ra y53))] H := hPa
          have hD : va_D A [(ra 11, .inl (kI, 1019, .inl q_now)), (ra 2, .inl (kI, 8, .inl q_told)), (m0, .inr (11, oX11 ra y53))] := hDa
          clear hPa hDa
          refine W.widen (k := 0) (n := 0) (Nat.le_of_ble_eq_true rfl) (Nat.le_of_ble_eq_true rfl) ?_
          obtain rfl : r51 = 0 := iv_one w52 (by decide)
          have hPD9 := cl_s (wc := [(m0, .inr (11, oX11 ra y53)), (ra 2, .inl (kI, 8, .inl q_told)), (ra 11, .inl (kI, 1019, .inl q_now))]) hP hD [2, 1, 0] rfl (by decide +kernel)
          have hP9 := hPD9.1
          have hD9 := hPD9.2
          exact W.iret (v := 0) hx hb hr (fun t ht hW => ⟨⟨0, (), rfl, (iv_w ivk_0 (by decide) (by decide)), y53, hq54, (show y53 1 = x0 1 from hq56), (show y53 10 = x0 10 from hq57), (show y53 11 = x0 11 from hq58), (show y53 14 = x0 14 from hq59), by rw [ht]; exact hP9, hD9⟩, hS.F ht⟩) hS.2.2 dX11_edge_77
        · have b60 : iv 1 1 r47 := iv_neLo c49 w48.1 ivk_0 (by decide) (by decide)
          have b61 : iv 0 20 p3 := (w48.2).resolve_left (iv_ne b60 ivk_0 (by decide))
          refine lv_iconst (v := 1) hx hb dX11_edge_40 ic_1 ?_
          refine lv_goto (tgt := 45) hx hb dX11_edge_41 rfl ?_
          refine lv_istore (lv' := [(5, .int 1), (0, .ref m0), (1, .int p0), (2, .int p1), (3, .int p2), (4, .int p3)]) hx hb dX11_edge_45 hl (Nat.le_of_ble_eq_true rfl) rfl (fun ls hl => ?_)
          refine lv_iload hx hb dX11_edge_47 (lv_at hl 0 rfl) ?_
          refine lv_if_eq (tgt := 72) hx hb dX11_edge_49 rfl (fun c9 => absurd c9 (by decide)) (fun _ => ?_)
          refine lv_aload_n hx hb dX11_edge_52 rfl (lv_at hl 1 rfl) ?_
          refine lv_iload_n hx hb dX11_edge_53 rfl (lv_at hl 2 rfl) ?_
          refine lv_iload_n hx hb dX11_edge_54 rfl (lv_at hl 3 rfl) ?_
          refine lv_iload_n hx hb dX11_edge_55 rfl (lv_at hl 4 rfl) ?_
          refine lv_iload hx hb dX11_edge_56 (lv_at hl 5 rfl) ?_
          obtain ⟨hPc, hDc, hFc, hJn⟩ := cl_a (wc := [(m0, .inr (11, oX11 ra (upd x0 0 0))), (ra 11, .inl (kI, 1019, .inl q_now))]) (wr := [(ra 2, .inl (kI, 8, .inl q_told))]) hP hD hS hA [1, 0] [2] rfl rfl (by decide +kernel)
          refine va_calli (va_runV (As := [.int p0, .int p1, .int p2, .int p3]) (rest := []) ⟨hx, hb, hml, hown, hts⟩ (s11_isEdge l dC dI kB kI kJ kZ kC kS H.size m0 ra (upd x0 0 0) q_now p0 p1 p2 p3 ((fI_u hX (k := 0) ((iv_w ivk_0 (by decide) (by decide))))) (hq_now) (b15) ((iv_w b31 (by decide) (by decide)))) (cwV 4 hts gX11_edge_X11_isEdge rfl rfl rfl (by decide +kernel) ⟨Nat.le_of_ble_eq_true rfl, Nat.le_of_ble_eq_true rfl⟩) ⟨fun a U g mk q => by obtain ⟨q0, q1, qP, qE, qD⟩ := q; exact ⟨q0, q1, qP, kE_call qE, qD⟩, va_recv hK hP (ci := 11) (q0 := 1) rfl rfl, fun U hU hW => ⟨rfl, by rw [hU], by rw [hU]; exact hPc, kE_warm hW hE, hDc.weaken (fun _ _ _ _ => trivial)⟩⟩ rfl rfl hl.1 rfl (lv_room (Nat.le_of_ble_eq_true rfl)) dX11_edge_58 ⟨Nat.le_of_ble_eq_true rfl, Nat.le_of_ble_eq_true rfl⟩) hS (fun q _ h => hFc q h) hFc (fun r62 u t H locs ht hvm w63 hB hz1 hk1 hS => ?_)
          obtain ⟨hP1, hD1⟩ := hB
          try dsimp only at w63
          obtain ⟨hPa, hDa⟩ := hJn (w1 := [(m0, .inr (11, oX11 ra (upd x0 0 0))), (ra 11, .inl (kI, 1019, .inl q_now))]) hk1 ht hP1 hD1
          clear hP hD hPc hDc hFc hJn hP1 hD1 hk1
          have hP : va_P (dC, dI) vwCl [(ra 2, .inl (kI, 8, .inl q_told)), (m0, .inr (11, oX11 ra (upd x0 0 0))), (ra 11, .inl (kI, 1019, .inl q_now))] H := hPa
          have hD : va_D A [(ra 2, .inl (kI, 8, .inl q_told)), (m0, .inr (11, oX11 ra (upd x0 0 0))), (ra 11, .inl (kI, 1019, .inl q_now))] := hDa
          clear hPa hDa
          refine W.widen (k := 0) (n := 0) (Nat.le_of_ble_eq_true rfl) (Nat.le_of_ble_eq_true rfl) ?_
          refine lv_if_eq (tgt := 68) hx hb dX11_edge_61 rfl (fun c64 => ?_) (fun c64 => ?_)
          · have b65 : iv 0 0 r62 := iv_eqL c64 ivk_0
            refine lv_iconst (v := 0) hx hb dX11_edge_68 ic_0 ?_
            refine lv_goto (tgt := 77) hx hb dX11_edge_69 rfl ?_
            have hPD9 := cl_s (wc := [(m0, .inr (11, oX11 ra (upd x0 0 0))), (ra 2, .inl (kI, 8, .inl q_told)), (ra 11, .inl (kI, 1019, .inl q_now))]) hP hD [1, 0, 2] rfl (by decide +kernel)
            have hP9 := hPD9.1
            have hD9 := hPD9.2
            exact W.iret (v := 0) hx hb hr (fun t ht hW => ⟨⟨0, (), rfl, (iv_w ivk_0 (by decide) (by decide)), upd x0 0 0, (fI_u hX (k := 0) ((iv_w ivk_0 (by decide) (by decide)))), (show x0 1 = x0 1 from rfl), (show x0 10 = x0 10 from rfl), (show x0 11 = x0 11 from rfl), (show x0 14 = x0 14 from rfl), by rw [ht]; exact hP9, hD9⟩, hS.F ht⟩) hS.2.2 dX11_edge_77
          · have b66 : iv 1 1 r62 := iv_neLo c64 w63 ivk_0 (by decide) (by decide)
            refine lv_iconst (v := 1) hx hb dX11_edge_64 ic_1 ?_
            refine lv_goto (tgt := 77) hx hb dX11_edge_65 rfl ?_
            have hPD9 := cl_s (wc := [(m0, .inr (11, oX11 ra (upd x0 0 0))), (ra 2, .inl (kI, 8, .inl q_told)), (ra 11, .inl (kI, 1019, .inl q_now))]) hP hD [1, 0, 2] rfl (by decide +kernel)
            have hP9 := hPD9.1
            have hD9 := hPD9.2
            exact W.iret (v := 1) hx hb hr (fun t ht hW => ⟨⟨1, (), rfl, (iv_w ivk_1 (by decide) (by decide)), upd x0 0 0, (fI_u hX (k := 0) ((iv_w ivk_0 (by decide) (by decide)))), (show x0 1 = x0 1 from rfl), (show x0 10 = x0 10 from rfl), (show x0 11 = x0 11 from rfl), (show x0 14 = x0 14 from rfl), by rw [ht]; exact hP9, hD9⟩, hS.F ht⟩) hS.2.2 dX11_edge_77
def rm_s11_diamond : Room := { frames := 5, cells := 0, slots := 0, locals := 125 }
set_option maxHeartbeats 4000000 in
set_option maxRecDepth 100000 in
theorem s11_diamond (l : Launch) (dC : Nat → ClassId) (dI : Nat → Nat → Nat) (kB kI kJ kZ kC kS : ClassId) (sz : Nat) (m0 : Nat) (ra : Nat → Nat) (x0 : Nat → Int32) (q_told : Nat → Int32) (q_now : Nat → Int32) (q_wide : Nat → Int32) (q_diamondFrom : Nat → Int32) (q_diamondTo : Nat → Int32) (p0 : Int32) (p1 : Int32) (p2 : Int32) (hX : fI lX11 hX11 x0) (hq_told : fI lTold hTold q_told) (hq_now : fI lNow hNow q_now) (hq_diamondFrom : fI (fun _ => 0) (fun _ => 10) q_diamondFrom) (hq_diamondTo : fI (fun _ => 0) (fun _ => 10) q_diamondTo) : Met l yX11_diamond wsX11_diamond rm_s11_diamond (va_Pc [.ref m0, .int p0, .int p1, .int p2] (fun U => U.heap.size = sz ∧ va_P (dC, dI) vwCl [(m0, .inr (11, oX11 ra x0)), (ra 2, .inl (kI, 8, .inl q_told)), (ra 11, .inl (kI, 1019, .inl q_now)), (ra 19, .inl (kI, 12, .inl q_wide)), (ra 20, .inl (kI, 10, .inl q_diamondFrom)), (ra 21, .inl (kI, 10, .inl q_diamondTo))] U.heap ∧ kE dC dI kB kI kJ kZ kC kS U ∧ va_D (fun _ => True) [(m0, .inr (11, oX11 ra x0)), (ra 2, .inl (kI, 8, .inl q_told)), (ra 11, .inl (kI, 1019, .inl q_now)), (ra 19, .inl (kI, 12, .inl q_wide)), (ra 20, .inl (kI, 10, .inl q_diamondFrom)), (ra 21, .inl (kI, 10, .inl q_diamondTo))])) (va_Qi (fun (r : Int32) (_ : Unit) => iv 0 2147483647 r) (fun _ t => ∃ (x0' : Nat → Int32) (q_wide' : Nat → Int32) (q_diamondFrom' : Nat → Int32) (q_diamondTo' : Nat → Int32), fI lX11 hX11 x0' ∧ fI (fun _ => 0) (fun _ => 10) q_diamondFrom' ∧ fI (fun _ => 0) (fun _ => 10) q_diamondTo' ∧ (x0' 1 = x0 1) ∧ (x0' 10 = x0 10) ∧ (x0' 11 = x0 11) ∧ (x0' 14 = x0 14) ∧ va_P (dC, dI) vwCl [(m0, .inr (11, oX11 ra x0')), (ra 2, .inl (kI, 8, .inl q_told)), (ra 11, .inl (kI, 1019, .inl q_now)), (ra 19, .inl (kI, 12, .inl q_wide')), (ra 20, .inl (kI, 10, .inl q_diamondFrom')), (ra 21, .inl (kI, 10, .inl q_diamondTo'))] t.heap ∧ va_D (va_A [(m0, .inr (11, oX11 ra x0)), (ra 2, .inl (kI, 8, .inl q_told)), (ra 11, .inl (kI, 1019, .inl q_now)), (ra 19, .inl (kI, 12, .inl q_wide)), (ra 20, .inl (kI, 10, .inl q_diamondFrom)), (ra 21, .inl (kI, 10, .inl q_diamondTo))] sz) [(m0, .inr (11, oX11 ra x0')), (ra 2, .inl (kI, 8, .inl q_told)), (ra 11, .inl (kI, 1019, .inl q_now)), (ra 19, .inl (kI, 12, .inl q_wide')), (ra 20, .inl (kI, 10, .inl q_diamondFrom')), (ra 21, .inl (kI, 10, .inl q_diamondTo'))]) (va_A [(m0, .inr (11, oX11 ra x0)), (ra 2, .inl (kI, 8, .inl q_told)), (ra 11, .inl (kI, 1019, .inl q_now)), (ra 19, .inl (kI, 12, .inl q_wide)), (ra 20, .inl (kI, 10, .inl q_diamondFrom)), (ra 21, .inl (kI, 10, .inl q_diamondTo))] sz)) 0 0 (va_A [(m0, .inr (11, oX11 ra x0)), (ra 2, .inl (kI, 8, .inl q_told)), (ra 11, .inl (kI, 1019, .inl q_now)), (ra 19, .inl (kI, 12, .inl q_wide)), (ra 20, .inl (kI, 10, .inl q_diamondFrom)), (ra 21, .inl (kI, 10, .inl q_diamondTo))] sz) := by
  refine Met.ofW (cc := cX11_diamond) (maxL := 4) (ret := (some .int)) (by decide) rfl ?_
  intro p e s m args0 below meth c s₁ B hml hv
  obtain ⟨hargs, hsz, hP, hE, hD0⟩ := hv
  have hx := B.exec
  have hb := B.bytes
  have hr := B.returns
  have hts := atoms_spec (ws := wsX11_diamond) B.pre
  have hown : s.vm.findClass RX11 = some m.cls := findClass_of_methodNamed B.named
  have hlocks := B.notSynchronized
  have hK := hE.1
  have hin11 : ∀ w ∈ wsX110, w ∈ wsX11_diamond := fun _ h9 => List.mem_cons_of_mem _ (List.mem_append_right _ h9)
  have hw_0 := hts (.fieldLink RX11 142 "PathProberModel" "code" "I") (List.mem_of_getElem? (i := 1) rfl)
  have hw_1 := hts (.fieldLink RX11 416 "PathProberModel" "diamonds" "I") (List.mem_of_getElem? (i := 2) rfl)
  have hw_2 := hts (.fieldLink RX11 100 "PathProberModel" "diamondTo" "[I") (List.mem_of_getElem? (i := 4) rfl)
  have hw_3 := hts (.fieldLink RX11 97 "PathProberModel" "diamondFrom" "[I") (List.mem_of_getElem? (i := 3) rfl)
  subst hsz
  have hD := hD0.self (sz := s.heap.size)
  generalize hAe : va_A [(m0, .inr (11, oX11 ra x0)), (ra 2, .inl (kI, 8, .inl q_told)), (ra 11, .inl (kI, 1019, .inl q_now)), (ra 19, .inl (kI, 12, .inl q_wide)), (ra 20, .inl (kI, 10, .inl q_diamondFrom)), (ra 21, .inl (kI, 10, .inl q_diamondTo))] s.heap.size = A at hD ⊢
  have hA : ∀ q : Nat, s.heap.size ≤ q → A q := fun q h => by rw [← hAe]; exact Or.inr h
  have hS : va_S A s.heap s.heap [] := va_S.rf
  have hP : va_P (dC, dI) vwCl [(m0, .inr (11, oX11 ra x0)), (ra 2, .inl (kI, 8, .inl q_told)), (ra 11, .inl (kI, 1019, .inl q_now)), (ra 19, .inl (kI, 12, .inl q_wide)), (ra 20, .inl (kI, 10, .inl q_diamondFrom)), (ra 21, .inl (kI, 10, .inl q_diamondTo))] s.heap := hP
  have hl := lv_entry ([.ref m0, .int p0, .int p1, .int p2]) (n := 4) (Nat.le_of_ble_eq_true rfl)
  have hla : entryFrame m args0 4 = entryFrame m ([.ref m0, .int p0, .int p1, .int p2] : List Value).toArray 4 := by rw [hargs]
  rw [hla, lg_entry_eq]
  generalize (lg_sl ([.ref m0, .int p0, .int p1, .int p2]) ++ List.replicate (4 - (lg_sl ([.ref m0, .int p0, .int p1, .int p2])).length) Slot.unset).toArray = ls at hl ⊢
  have hl : lv_has ls 4 [(0, .ref m0), (1, .int p0), (2, .int p1), (3, .int p2)] := hl
  have hJ47 : ∀ (y47_0 : Nat → Int32) (g47_3 : Nat → Int32) (g47_4 : Nat → Int32) (g47_5 : Nat → Int32) (H : Heap) (locs : List Loc) (ls : Array Slot), fI lX11 hX11 y47_0 → fI (fun _ => 0) (fun _ => 10) g47_4 → fI (fun _ => 0) (fun _ => 10) g47_5 → iv 0 2 p0 → (y47_0 1 = x0 1) → (y47_0 10 = x0 10) → (y47_0 11 = x0 11) → (y47_0 14 = x0 14) → va_P (dC, dI) vwCl [(m0, .inr (11, oX11 ra y47_0)), (ra 2, .inl (kI, 8, .inl q_told)), (ra 11, .inl (kI, 1019, .inl q_now)), (ra 19, .inl (kI, 12, .inl g47_3)), (ra 20, .inl (kI, 10, .inl g47_4)), (ra 21, .inl (kI, 10, .inl g47_5))] H → va_D A [(m0, .inr (11, oX11 ra y47_0)), (ra 2, .inl (kI, 8, .inl q_told)), (ra 11, .inl (kI, 1019, .inl q_now)), (ra 19, .inl (kI, 12, .inl g47_3)), (ra 20, .inl (kI, 10, .inl g47_4)), (ra 21, .inl (kI, 10, .inl g47_5))] → va_S A s.heap H locs → lv_has ls 4 [(0, .ref m0), (1, .int p0), (2, .int p1), (3, .int p2)] → W p l e (headSpec wsX11_diamond rm_s11_diamond).room s m args0 below meth c H locs (0) (0) (MQ below (va_Qi (fun (r : Int32) (_ : Unit) => iv 0 2147483647 r) (fun _ t => ∃ (x0' : Nat → Int32) (q_wide' : Nat → Int32) (q_diamondFrom' : Nat → Int32) (q_diamondTo' : Nat → Int32), fI lX11 hX11 x0' ∧ fI (fun _ => 0) (fun _ => 10) q_diamondFrom' ∧ fI (fun _ => 0) (fun _ => 10) q_diamondTo' ∧ (x0' 1 = x0 1) ∧ (x0' 10 = x0 10) ∧ (x0' 11 = x0 11) ∧ (x0' 14 = x0 14) ∧ va_P (dC, dI) vwCl [(m0, .inr (11, oX11 ra x0')), (ra 2, .inl (kI, 8, .inl q_told)), (ra 11, .inl (kI, 1019, .inl q_now)), (ra 19, .inl (kI, 12, .inl q_wide')), (ra 20, .inl (kI, 10, .inl q_diamondFrom')), (ra 21, .inl (kI, 10, .inl q_diamondTo'))] t.heap ∧ va_D A [(m0, .inr (11, oX11 ra x0')), (ra 2, .inl (kI, 8, .inl q_told)), (ra 11, .inl (kI, 1019, .inl q_now)), (ra 19, .inl (kI, 12, .inl q_wide')), (ra 20, .inl (kI, 10, .inl q_diamondFrom')), (ra 21, .inl (kI, 10, .inl q_diamondTo'))]) A) args0 s 0 0 A) (F0 m 47 ls []) := by
    intro y47_0 g47_3 g47_4 g47_5 H locs ls hI47_0 hI47_4 hI47_5 h47_4 htp_47 hfp_47 hor_47 hirl_47 hP hD hS hl
    refine lv_aload_n hx hb dX11_diamond_47 rfl (lv_at hl 0 rfl) ?_
    refine lv_iconst (v := 1) hx hb dX11_diamond_48 ic_1 ?_
    obtain ⟨hPc, hDc, hFc, hJn⟩ := cl_a (wc := [(m0, .inr (11, oX11 ra y47_0))]) (wr := [(ra 2, .inl (kI, 8, .inl q_told)), (ra 11, .inl (kI, 1019, .inl q_now)), (ra 19, .inl (kI, 12, .inl g47_3)), (ra 20, .inl (kI, 10, .inl g47_4)), (ra 21, .inl (kI, 10, .inl g47_5))]) hP hD hS hA [0] [1, 2, 3, 4, 5] rfl rfl (by decide +kernel)
    refine va_calli (va_runV (As := [.int 1]) (rest := []) ⟨hx, hb, hml, hown, hts⟩ (s11_fail l dC dI kB kI kJ kZ kC kS H.size m0 ra y47_0 1 (hI47_0)) (cwV 1 hts gX11_diamond_X11_fail rfl rfl rfl (by decide +kernel) ⟨Nat.le_of_ble_eq_true rfl, Nat.le_of_ble_eq_true rfl⟩) ⟨fun a U g mk q => by obtain ⟨q0, q1, qP, qE, qD⟩ := q; exact ⟨q0, q1, qP, kE_call qE, qD⟩, va_recv hK hP (ci := 11) (q0 := 0) rfl rfl, fun U hU hW => ⟨rfl, by rw [hU], by rw [hU]; exact hPc, kE_warm hW hE, hDc.weaken (fun _ _ _ _ => trivial)⟩⟩ rfl rfl hl.1 rfl (lv_room (Nat.le_of_ble_eq_true rfl)) dX11_diamond_49 ⟨Nat.le_of_ble_eq_true rfl, Nat.le_of_ble_eq_true rfl⟩) hS (fun q _ h => hFc q h) hFc (fun r1 u t H locs ht hvm w2 hB hz1 hk1 hS => ?_)
    obtain ⟨y3, hq4, hq5, hq6, hq7, hq8, hq9, hP1, hD1⟩ := hB
    try dsimp only at w2
    obtain ⟨hPa, hDa⟩ := hJn (w1 := [(m0, .inr (11, oX11 ra y3))]) hk1 ht hP1 hD1
    clear hP hD hPc hDc hFc hJn hP1 hD1 hk1
    have hP : va_P (dC, dI) vwCl [(ra 2, .inl (kI, 8, .inl q_told)), (ra 11, .inl (kI, 1019, .inl q_now)), (ra 19, .inl (kI, 12, .inl g47_3)), (ra 20, .inl (kI, 10, .inl g47_4)), (ra 21, .inl (kI, 10, .inl g47_5)), (m0, .inr (11, oX11 ra y3))] H := hPa
    have hD : va_D A [(ra 2, .inl (kI, 8, .inl q_told)), (ra 11, .inl (kI, 1019, .inl q_now)), (ra 19, .inl (kI, 12, .inl g47_3)), (ra 20, .inl (kI, 10, .inl g47_4)), (ra 21, .inl (kI, 10, .inl g47_5)), (m0, .inr (11, oX11 ra y3))] := hDa
    clear hPa hDa
    refine W.widen (k := 0) (n := 0) (Nat.le_of_ble_eq_true rfl) (Nat.le_of_ble_eq_true rfl) ?_
    obtain rfl : r1 = 0 := iv_one w2 (by decide)
    have hPD9 := cl_s (wc := [(m0, .inr (11, oX11 ra y3)), (ra 2, .inl (kI, 8, .inl q_told)), (ra 11, .inl (kI, 1019, .inl q_now)), (ra 19, .inl (kI, 12, .inl g47_3)), (ra 20, .inl (kI, 10, .inl g47_4)), (ra 21, .inl (kI, 10, .inl g47_5))]) hP hD [5, 0, 1, 2, 3, 4] rfl (by decide +kernel)
    have hP9 := hPD9.1
    have hD9 := hPD9.2
    exact W.iret (v := 0) hx hb hr (fun t ht hW => ⟨⟨0, (), rfl, (iv_w ivk_0 (by decide) (by decide)), y3, g47_3, g47_4, g47_5, hq4, hI47_4, hI47_5, (show y3 1 = x0 1 from hq6.trans (htp_47)), (show y3 10 = x0 10 from hq7.trans (hfp_47)), (show y3 11 = x0 11 from hq8.trans (hor_47)), (show y3 14 = x0 14 from hq9.trans (hirl_47)), by rw [ht]; exact hP9, hD9⟩, hS.F ht⟩) hS.2.2 dX11_diamond_52
  refine lv_aload_n hx hb dX11_diamond_0 rfl (lv_at hl 0 rfl) ?_
  refine lv_iconst (v := 0) hx hb dX11_diamond_1 ic_0 ?_
  refine va_put (D := (dC, dI)) (ci := 11) (v := .int 0) (ty := .int) (C := RX11) (T := TX11) (N := 61) hx hb hts hin11 tyX11 tyX11_ok nmX11 hown hK hP hD hS 0 rfl rfl 2 (by decide) hw_0 (fun _ h9 => h9) rfl (by decide +kernel) rfl rfl (Nat.le_of_ble_eq_true rfl) dX11_diamond_2 (fun H locs hPa hDa hS => ?_)
  clear hP hD
  have hP : va_P (dC, dI) vwCl [(m0, .inr (11, oX11 ra (upd x0 0 0))), (ra 2, .inl (kI, 8, .inl q_told)), (ra 11, .inl (kI, 1019, .inl q_now)), (ra 19, .inl (kI, 12, .inl q_wide)), (ra 20, .inl (kI, 10, .inl q_diamondFrom)), (ra 21, .inl (kI, 10, .inl q_diamondTo))] H := hPa
  have hD : va_D A [(m0, .inr (11, oX11 ra (upd x0 0 0))), (ra 2, .inl (kI, 8, .inl q_told)), (ra 11, .inl (kI, 1019, .inl q_now)), (ra 19, .inl (kI, 12, .inl q_wide)), (ra 20, .inl (kI, 10, .inl q_diamondFrom)), (ra 21, .inl (kI, 10, .inl q_diamondTo))] := hDa
  clear hPa hDa
  refine lv_aload_n hx hb dX11_diamond_5 rfl (lv_at hl 0 rfl) ?_
  refine lv_iload_n hx hb dX11_diamond_6 rfl (lv_at hl 1 rfl) ?_
  obtain ⟨hPc, hDc, hFc, hJn⟩ := cl_a (wc := [(m0, .inr (11, oX11 ra (upd x0 0 0))), (ra 2, .inl (kI, 8, .inl q_told))]) (wr := [(ra 11, .inl (kI, 1019, .inl q_now)), (ra 19, .inl (kI, 12, .inl q_wide)), (ra 20, .inl (kI, 10, .inl q_diamondFrom)), (ra 21, .inl (kI, 10, .inl q_diamondTo))]) hP hD hS hA [0, 1] [2, 3, 4, 5] rfl rfl (by decide +kernel)
  refine va_calli (va_runV (As := [.int p0]) (rest := []) ⟨hx, hb, hml, hown, hts⟩ (s11_isGoal l dC dI kB kI kJ kZ kC kS H.size m0 ra (upd x0 0 0) q_told p0 ((fI_u hX (k := 0) ((iv_w ivk_0 (by decide) (by decide))))) (hq_told)) (cwV 1 hts gX11_diamond_X11_isGoal rfl rfl rfl (by decide +kernel) ⟨Nat.le_of_ble_eq_true rfl, Nat.le_of_ble_eq_true rfl⟩) ⟨fun a U g mk q => by obtain ⟨q0, q1, qP, qE, qD⟩ := q; exact ⟨q0, q1, qP, kE_call qE, qD⟩, va_recv hK hP (ci := 11) (q0 := 0) rfl rfl, fun U hU hW => ⟨rfl, by rw [hU], by rw [hU]; exact hPc, kE_warm hW hE, hDc.weaken (fun _ _ _ _ => trivial)⟩⟩ rfl rfl hl.1 rfl (lv_room (Nat.le_of_ble_eq_true rfl)) dX11_diamond_7 ⟨Nat.le_of_ble_eq_true rfl, Nat.le_of_ble_eq_true rfl⟩) hS (fun q _ h => hFc q h) hFc (fun r10 u t H locs ht hvm w11 hB hz1 hk1 hS => ?_)
  obtain ⟨hP1, hD1⟩ := hB
  try dsimp only at w11
  obtain ⟨hPa, hDa⟩ := hJn (w1 := [(m0, .inr (11, oX11 ra (upd x0 0 0))), (ra 2, .inl (kI, 8, .inl q_told))]) hk1 ht hP1 hD1
  clear hP hD hPc hDc hFc hJn hP1 hD1 hk1
  have hP : va_P (dC, dI) vwCl [(ra 11, .inl (kI, 1019, .inl q_now)), (ra 19, .inl (kI, 12, .inl q_wide)), (ra 20, .inl (kI, 10, .inl q_diamondFrom)), (ra 21, .inl (kI, 10, .inl q_diamondTo)), (m0, .inr (11, oX11 ra (upd x0 0 0))), (ra 2, .inl (kI, 8, .inl q_told))] H := hPa
  have hD : va_D A [(ra 11, .inl (kI, 1019, .inl q_now)), (ra 19, .inl (kI, 12, .inl q_wide)), (ra 20, .inl (kI, 10, .inl q_diamondFrom)), (ra 21, .inl (kI, 10, .inl q_diamondTo)), (m0, .inr (11, oX11 ra (upd x0 0 0))), (ra 2, .inl (kI, 8, .inl q_told))] := hDa
  clear hPa hDa
  refine W.widen (k := 0) (n := 0) (Nat.le_of_ble_eq_true rfl) (Nat.le_of_ble_eq_true rfl) ?_
  refine lv_if_ne (tgt := 19) hx hb dX11_diamond_10 rfl (fun c12 => ?_) (fun c12 => ?_)
  · have b13 : iv 1 1 r10 := iv_neLo c12 w11.1 ivk_0 (by decide) (by decide)
    have b14 : iv 0 2 p0 := (w11.2).resolve_left (iv_ne b13 ivk_0 (by decide))
    refine lv_aload_n hx hb dX11_diamond_19 rfl (lv_at hl 0 rfl) ?_
    refine lv_iload_n hx hb dX11_diamond_20 rfl (lv_at hl 1 rfl) ?_
    obtain ⟨hPc, hDc, hFc, hJn⟩ := cl_a (wc := [(m0, .inr (11, oX11 ra (upd x0 0 0))), (ra 11, .inl (kI, 1019, .inl q_now)), (ra 19, .inl (kI, 12, .inl q_wide)), (ra 20, .inl (kI, 10, .inl q_diamondFrom)), (ra 21, .inl (kI, 10, .inl q_diamondTo))]) (wr := [(ra 2, .inl (kI, 8, .inl q_told))]) hP hD hS hA [4, 0, 1, 2, 3] [5] rfl rfl (by decide +kernel)
    refine va_callv (va_runV (As := [.int p0]) (rest := []) ⟨hx, hb, hml, hown, hts⟩ (s11_tellDiamonds l dC dI kB kI kJ kZ kC kS H.size m0 ra (upd x0 0 0) q_now q_wide q_diamondFrom q_diamondTo p0 ((fI_u hX (k := 0) ((iv_w ivk_0 (by decide) (by decide))))) (hq_now) (hq_diamondFrom) (hq_diamondTo) (b14)) (cwV 1 hts gX11_diamond_X11_tellDiamonds rfl rfl rfl (by decide +kernel) ⟨Nat.le_of_ble_eq_true rfl, Nat.le_of_ble_eq_true rfl⟩) ⟨fun a U g mk q => by obtain ⟨q0, q1, qP, qE, qD⟩ := q; exact ⟨q0, q1, qP, kE_call qE, qD⟩, va_recv hK hP (ci := 11) (q0 := 4) rfl rfl, fun U hU hW => ⟨rfl, by rw [hU], by rw [hU]; exact hPc, kE_warm hW hE, hDc.weaken (fun _ _ _ _ => trivial)⟩⟩ rfl rfl hl.1 rfl (lv_room (Nat.le_of_ble_eq_true rfl)) dX11_diamond_21 ⟨Nat.le_of_ble_eq_true rfl, Nat.le_of_ble_eq_true rfl⟩) hS (fun q _ h => hFc q h) hFc (fun u t H locs ht hvm w16 hB hz1 hk1 hS => ?_)
    obtain ⟨y17, f18, f19, f20, hq21, hq22, hq23, hq24, hq25, hq26, hq27, hP1, hD1⟩ := hB
    try dsimp only at w16
    obtain ⟨hPa, hDa⟩ := hJn (w1 := [(m0, .inr (11, oX11 ra y17)), (ra 11, .inl (kI, 1019, .inl q_now)), (ra 19, .inl (kI, 12, .inl f18)), (ra 20, .inl (kI, 10, .inl f19)), (ra 21, .inl (kI, 10, .inl f20))]) hk1 ht hP1 hD1
    clear hP hD hPc hDc hFc hJn hP1 hD1 hk1
    have hP : va_P (dC, dI) vwCl [(ra 2, .inl (kI, 8, .inl q_told)), (m0, .inr (11, oX11 ra y17)), (ra 11, .inl (kI, 1019, .inl q_now)), (ra 19, .inl (kI, 12, .inl f18)), (ra 20, .inl (kI, 10, .inl f19)), (ra 21, .inl (kI, 10, .inl f20))] H := hPa
    have hD : va_D A [(ra 2, .inl (kI, 8, .inl q_told)), (m0, .inr (11, oX11 ra y17)), (ra 11, .inl (kI, 1019, .inl q_now)), (ra 19, .inl (kI, 12, .inl f18)), (ra 20, .inl (kI, 10, .inl f19)), (ra 21, .inl (kI, 10, .inl f20))] := hDa
    clear hPa hDa
    refine W.widen (k := 0) (n := 0) (Nat.le_of_ble_eq_true rfl) (Nat.le_of_ble_eq_true rfl) ?_
    refine lv_iload_n hx hb dX11_diamond_24 rfl (lv_at hl 2 rfl) ?_
    refine lv_iconst (v := (-1)) hx hb dX11_diamond_25 ic_m1 ?_
    refine lv_aload_n hx hb dX11_diamond_26 rfl (lv_at hl 0 rfl) ?_
    refine va_get (D := (dC, dI)) (ci := 11) (v := .int (y17 18)) (C := RX11) (T := TX11) (N := 61) hx hb hts hin11 hown hK hP 1 rfl rfl 40 (Nat.le_of_ble_eq_true rfl) hw_1 (fun _ h9 => h9) rfl dX11_diamond_27 ?_
    refine lv_iconst (v := 1) hx hb dX11_diamond_30 ic_1 ?_
    refine lv_isub hx hb dX11_diamond_31 ?_
    refine iv_top (a := (-1)) (b := 9) (iv_sub (hq21 18 : iv 0 10 (y17 18)) ivk_1 (by decide) (by decide) (by decide) (by decide)) (fun z28 b29 => ?_)
    obtain ⟨hPc, hDc, hFc, hJn⟩ := cl_a (wc := []) (wr := [(ra 2, .inl (kI, 8, .inl q_told)), (m0, .inr (11, oX11 ra y17)), (ra 11, .inl (kI, 1019, .inl q_now)), (ra 19, .inl (kI, 12, .inl f18)), (ra 20, .inl (kI, 10, .inl f19)), (ra 21, .inl (kI, 10, .inl f20))]) hP hD hS hA [] [0, 1, 2, 3, 4, 5] rfl rfl (by decide +kernel)
    refine va_calli (va_runS (As := [.int p1, .int (-1), .int z28]) (rest := []) ⟨hx, hb, hml, hown, hts⟩ (s11_isIn l dC dI kB kI kJ kZ kC kS H.size p1 (-1) z28) (va_cwS 3 hts gX11_diamond_X11_isIn rfl rfl rfl (by decide +kernel) ⟨Nat.le_of_ble_eq_true rfl, Nat.le_of_ble_eq_true rfl⟩) ⟨fun a U g mk q => by obtain ⟨q0, q1, qP, qE, qD⟩ := q; exact ⟨q0, q1, qP, kE_call qE, qD⟩, fun U hU hW => ⟨rfl, by rw [hU], by rw [hU]; exact hPc, kE_warm hW hE, hDc.weaken (fun _ _ _ _ => trivial)⟩⟩ rfl rfl hl.1 rfl (lv_room (Nat.le_of_ble_eq_true rfl)) dX11_diamond_32 ⟨Nat.le_of_ble_eq_true rfl, Nat.le_of_ble_eq_true rfl⟩) hS (fun q _ h => hFc q h) hFc (fun r30 u t H locs ht hvm w31 hB hz1 hk1 hS => ?_)
    obtain ⟨hP1, hD1⟩ := hB
    try dsimp only at w31
    obtain ⟨hPa, hDa⟩ := hJn (w1 := []) hk1 ht hP1 hD1
    clear hP hD hPc hDc hFc hJn hP1 hD1 hk1
    have hP : va_P (dC, dI) vwCl [(ra 2, .inl (kI, 8, .inl q_told)), (m0, .inr (11, oX11 ra y17)), (ra 11, .inl (kI, 1019, .inl q_now)), (ra 19, .inl (kI, 12, .inl f18)), (ra 20, .inl (kI, 10, .inl f19)), (ra 21, .inl (kI, 10, .inl f20))] H := hPa
    have hD : va_D A [(ra 2, .inl (kI, 8, .inl q_told)), (m0, .inr (11, oX11 ra y17)), (ra 11, .inl (kI, 1019, .inl q_now)), (ra 19, .inl (kI, 12, .inl f18)), (ra 20, .inl (kI, 10, .inl f19)), (ra 21, .inl (kI, 10, .inl f20))] := hDa
    clear hPa hDa
    refine W.widen (k := 0) (n := 0) (Nat.le_of_ble_eq_true rfl) (Nat.le_of_ble_eq_true rfl) ?_
    refine lv_if_eq (tgt := 47) hx hb dX11_diamond_35 rfl (fun c32 => ?_) (fun c32 => ?_)
    · have b33 : iv 0 0 r30 := iv_eqL c32 ivk_0
      have hPD9 := cl_s (wc := [(m0, .inr (11, oX11 ra y17)), (ra 2, .inl (kI, 8, .inl q_told)), (ra 11, .inl (kI, 1019, .inl q_now)), (ra 19, .inl (kI, 12, .inl f18)), (ra 20, .inl (kI, 10, .inl f19)), (ra 21, .inl (kI, 10, .inl f20))]) hP hD [1, 0, 2, 3, 4, 5] rfl (by decide +kernel)
      exact hJ47 y17 f18 f19 f20 _ _ _ (hq21) (hq22) (hq23) (b14) ((show y17 1 = x0 1 from hq24)) ((show y17 10 = x0 10 from hq25)) ((show y17 11 = x0 11 from hq26)) ((show y17 14 = x0 14 from hq27)) (hPD9.1) (hPD9.2) hS (lv_sub hl [0, 1, 2, 3] rfl)
    · have b34 : iv 1 1 r30 := iv_neLo c32 w31.1 ivk_0 (by decide) (by decide)
      have hr35 := (w31.2).resolve_left (iv_ne b34 ivk_0 (by decide))
      have b36 : iv (-1) 9 p1 := iv_cap (in_iv hr35 ivk_m1 b29) (iv_t p1) (by decide) (by decide)
      refine lv_iload_n hx hb dX11_diamond_38 rfl (lv_at hl 3 rfl) ?_
      refine lv_iconst (v := 0) hx hb dX11_diamond_39 ic_0 ?_
      refine lv_iconst (v := 3) hx hb dX11_diamond_40 ic_3 ?_
      obtain ⟨hPc, hDc, hFc, hJn⟩ := cl_a (wc := []) (wr := [(ra 2, .inl (kI, 8, .inl q_told)), (m0, .inr (11, oX11 ra y17)), (ra 11, .inl (kI, 1019, .inl q_now)), (ra 19, .inl (kI, 12, .inl f18)), (ra 20, .inl (kI, 10, .inl f19)), (ra 21, .inl (kI, 10, .inl f20))]) hP hD hS hA [] [0, 1, 2, 3, 4, 5] rfl rfl (by decide +kernel)
      refine va_calli (va_runS (As := [.int p2, .int 0, .int 3]) (rest := []) ⟨hx, hb, hml, hown, hts⟩ (s11_isIn l dC dI kB kI kJ kZ kC kS H.size p2 0 3) (va_cwS 3 hts gX11_diamond_X11_isIn rfl rfl rfl (by decide +kernel) ⟨Nat.le_of_ble_eq_true rfl, Nat.le_of_ble_eq_true rfl⟩) ⟨fun a U g mk q => by obtain ⟨q0, q1, qP, qE, qD⟩ := q; exact ⟨q0, q1, qP, kE_call qE, qD⟩, fun U hU hW => ⟨rfl, by rw [hU], by rw [hU]; exact hPc, kE_warm hW hE, hDc.weaken (fun _ _ _ _ => trivial)⟩⟩ rfl rfl hl.1 rfl (lv_room (Nat.le_of_ble_eq_true rfl)) dX11_diamond_41 ⟨Nat.le_of_ble_eq_true rfl, Nat.le_of_ble_eq_true rfl⟩) hS (fun q _ h => hFc q h) hFc (fun r37 u t H locs ht hvm w38 hB hz1 hk1 hS => ?_)
      obtain ⟨hP1, hD1⟩ := hB
      try dsimp only at w38
      obtain ⟨hPa, hDa⟩ := hJn (w1 := []) hk1 ht hP1 hD1
      clear hP hD hPc hDc hFc hJn hP1 hD1 hk1
      have hP : va_P (dC, dI) vwCl [(ra 2, .inl (kI, 8, .inl q_told)), (m0, .inr (11, oX11 ra y17)), (ra 11, .inl (kI, 1019, .inl q_now)), (ra 19, .inl (kI, 12, .inl f18)), (ra 20, .inl (kI, 10, .inl f19)), (ra 21, .inl (kI, 10, .inl f20))] H := hPa
      have hD : va_D A [(ra 2, .inl (kI, 8, .inl q_told)), (m0, .inr (11, oX11 ra y17)), (ra 11, .inl (kI, 1019, .inl q_now)), (ra 19, .inl (kI, 12, .inl f18)), (ra 20, .inl (kI, 10, .inl f19)), (ra 21, .inl (kI, 10, .inl f20))] := hDa
      clear hPa hDa
      refine W.widen (k := 0) (n := 0) (Nat.le_of_ble_eq_true rfl) (Nat.le_of_ble_eq_true rfl) ?_
      refine lv_if_ne (tgt := 53) hx hb dX11_diamond_44 rfl (fun c39 => ?_) (fun c39 => ?_)
      · have b40 : iv 1 1 r37 := iv_neLo c39 w38.1 ivk_0 (by decide) (by decide)
        have hr41 := (w38.2).resolve_left (iv_ne b40 ivk_0 (by decide))
        have b42 : iv 0 3 p2 := iv_cap (in_iv hr41 ivk_0 ivk_3) (iv_t p2) (by decide) (by decide)
        refine lv_iload_n hx hb dX11_diamond_53 rfl (lv_at hl 2 rfl) ?_
        refine lv_iconst (v := (-1)) hx hb dX11_diamond_54 ic_m1 ?_
        refine lv_icmp_ne (tgt := 63) hx hb dX11_diamond_55 rfl (fun c43 => ?_) (fun c43 => ?_)
        · have b44 : iv 0 9 p1 := iv_neLo c43 b36 ivk_m1 (by decide) (by decide)
          refine lv_iload_n hx hb dX11_diamond_63 rfl (lv_at hl 3 rfl) ?_
          refine lv_if_ne (tgt := 76) hx hb dX11_diamond_64 rfl (fun c45 => ?_) (fun c45 => ?_)
          · have b46 : iv 1 3 p2 := iv_neLo c45 b42 ivk_0 (by decide) (by decide)
            refine lv_iload_n hx hb dX11_diamond_76 rfl (lv_at hl 3 rfl) ?_
            refine lv_iconst (v := 1) hx hb dX11_diamond_77 ic_1 ?_
            refine lv_icmp_ne (tgt := 90) hx hb dX11_diamond_78 rfl (fun c47 => ?_) (fun c47 => ?_)
            · have b48 : iv 2 3 p2 := iv_neLo c47 b46 ivk_1 (by decide) (by decide)
              refine lv_iload_n hx hb dX11_diamond_90 rfl (lv_at hl 3 rfl) ?_
              refine lv_iconst (v := 2) hx hb dX11_diamond_91 ic_2 ?_
              refine lv_icmp_ne (tgt := 103) hx hb dX11_diamond_92 rfl (fun c49 => ?_) (fun c49 => ?_)
              · have b50 : iv 3 3 p2 := iv_neLo c49 b48 ivk_2 (by decide) (by decide)
                refine lv_aload_n hx hb dX11_diamond_103 rfl (lv_at hl 0 rfl) ?_
                refine lv_iload_n hx hb dX11_diamond_104 rfl (lv_at hl 1 rfl) ?_
                refine lv_iload_n hx hb dX11_diamond_105 rfl (lv_at hl 2 rfl) ?_
                obtain ⟨hPc, hDc, hFc, hJn⟩ := cl_a (wc := [(m0, .inr (11, oX11 ra y17)), (ra 2, .inl (kI, 8, .inl q_told)), (ra 11, .inl (kI, 1019, .inl q_now)), (ra 20, .inl (kI, 10, .inl f19)), (ra 21, .inl (kI, 10, .inl f20))]) (wr := [(ra 19, .inl (kI, 12, .inl f18))]) hP hD hS hA [1, 0, 2, 4, 5] [3] rfl rfl (by decide +kernel)
                refine va_calli (va_runV (As := [.int p0, .int p1]) (rest := []) ⟨hx, hb, hml, hown, hts⟩ (s11_skewOf l dC dI kB kI kJ kZ kC kS H.size m0 ra y17 q_told q_now f19 f20 p0 p1 (hq21) (hq_told) (hq_now) (hq22) (hq23) (b14) (b44)) (cwV 2 hts gX11_diamond_X11_skewOf rfl rfl rfl (by decide +kernel) ⟨Nat.le_of_ble_eq_true rfl, Nat.le_of_ble_eq_true rfl⟩) ⟨fun a U g mk q => by obtain ⟨q0, q1, qP, qE, qD⟩ := q; exact ⟨q0, q1, qP, kE_call qE, qD⟩, va_recv hK hP (ci := 11) (q0 := 1) rfl rfl, fun U hU hW => ⟨rfl, by rw [hU], by rw [hU]; exact hPc, kE_warm hW hE, hDc.weaken (fun _ _ _ _ => trivial)⟩⟩ rfl rfl hl.1 rfl (lv_room (Nat.le_of_ble_eq_true rfl)) dX11_diamond_106 ⟨Nat.le_of_ble_eq_true rfl, Nat.le_of_ble_eq_true rfl⟩) hS (fun q _ h => hFc q h) hFc (fun r51 u t H locs ht hvm w52 hB hz1 hk1 hS => ?_)
                obtain ⟨hP1, hD1⟩ := hB
                try dsimp only at w52
                obtain ⟨hPa, hDa⟩ := hJn (w1 := [(m0, .inr (11, oX11 ra y17)), (ra 2, .inl (kI, 8, .inl q_told)), (ra 11, .inl (kI, 1019, .inl q_now)), (ra 20, .inl (kI, 10, .inl f19)), (ra 21, .inl (kI, 10, .inl f20))]) hk1 ht hP1 hD1
                clear hP hD hPc hDc hFc hJn hP1 hD1 hk1
                have hP : va_P (dC, dI) vwCl [(ra 19, .inl (kI, 12, .inl f18)), (m0, .inr (11, oX11 ra y17)), (ra 2, .inl (kI, 8, .inl q_told)), (ra 11, .inl (kI, 1019, .inl q_now)), (ra 20, .inl (kI, 10, .inl f19)), (ra 21, .inl (kI, 10, .inl f20))] H := hPa
                have hD : va_D A [(ra 19, .inl (kI, 12, .inl f18)), (m0, .inr (11, oX11 ra y17)), (ra 2, .inl (kI, 8, .inl q_told)), (ra 11, .inl (kI, 1019, .inl q_now)), (ra 20, .inl (kI, 10, .inl f19)), (ra 21, .inl (kI, 10, .inl f20))] := hDa
                clear hPa hDa
                refine W.widen (k := 0) (n := 0) (Nat.le_of_ble_eq_true rfl) (Nat.le_of_ble_eq_true rfl) ?_
                have hPD9 := cl_s (wc := [(m0, .inr (11, oX11 ra y17)), (ra 2, .inl (kI, 8, .inl q_told)), (ra 11, .inl (kI, 1019, .inl q_now)), (ra 19, .inl (kI, 12, .inl f18)), (ra 20, .inl (kI, 10, .inl f19)), (ra 21, .inl (kI, 10, .inl f20))]) hP hD [1, 2, 3, 0, 4, 5] rfl (by decide +kernel)
                have hP9 := hPD9.1
                have hD9 := hPD9.2
                exact W.iret (v := r51) hx hb hr (fun t ht hW => ⟨⟨r51, (), rfl, w52, y17, f18, f19, f20, hq21, hq22, hq23, (show y17 1 = x0 1 from hq24), (show y17 10 = x0 10 from hq25), (show y17 11 = x0 11 from hq26), (show y17 14 = x0 14 from hq27), by rw [ht]; exact hP9, hD9⟩, hS.F ht⟩) hS.2.2 dX11_diamond_109
              · have b53 : iv 2 2 p2 := iv_eqL c49 ivk_2
                refine lv_aload_n hx hb dX11_diamond_95 rfl (lv_at hl 0 rfl) ?_
                refine lv_iload_n hx hb dX11_diamond_96 rfl (lv_at hl 2 rfl) ?_
                obtain ⟨hPc, hDc, hFc, hJn⟩ := cl_a (wc := [(m0, .inr (11, oX11 ra y17)), (ra 19, .inl (kI, 12, .inl f18)), (ra 20, .inl (kI, 10, .inl f19)), (ra 21, .inl (kI, 10, .inl f20))]) (wr := [(ra 2, .inl (kI, 8, .inl q_told)), (ra 11, .inl (kI, 1019, .inl q_now))]) hP hD hS hA [1, 3, 4, 5] [0, 2] rfl rfl (by decide +kernel)
                refine va_calli (va_runV (As := [.int p1]) (rest := []) ⟨hx, hb, hml, hown, hts⟩ (s11_widest l dC dI kB kI kJ kZ kC kS H.size m0 ra y17 f18 f19 f20 p1 (hq21) (hq22) (hq23) (b44)) (cwV 1 hts gX11_diamond_X11_widest rfl rfl rfl (by decide +kernel) ⟨Nat.le_of_ble_eq_true rfl, Nat.le_of_ble_eq_true rfl⟩) ⟨fun a U g mk q => by obtain ⟨q0, q1, qP, qE, qD⟩ := q; exact ⟨q0, q1, qP, kE_call qE, qD⟩, va_recv hK hP (ci := 11) (q0 := 1) rfl rfl, fun U hU hW => ⟨rfl, by rw [hU], by rw [hU]; exact hPc, kE_warm hW hE, hDc.weaken (fun _ _ _ _ => trivial)⟩⟩ rfl rfl hl.1 rfl (lv_room (Nat.le_of_ble_eq_true rfl)) dX11_diamond_97 ⟨Nat.le_of_ble_eq_true rfl, Nat.le_of_ble_eq_true rfl⟩) hS (fun q _ h => hFc q h) hFc (fun r54 u t H locs ht hvm w55 hB hz1 hk1 hS => ?_)
                obtain ⟨hP1, hD1⟩ := hB
                try dsimp only at w55
                obtain ⟨hPa, hDa⟩ := hJn (w1 := [(m0, .inr (11, oX11 ra y17)), (ra 19, .inl (kI, 12, .inl f18)), (ra 20, .inl (kI, 10, .inl f19)), (ra 21, .inl (kI, 10, .inl f20))]) hk1 ht hP1 hD1
                clear hP hD hPc hDc hFc hJn hP1 hD1 hk1
                have hP : va_P (dC, dI) vwCl [(ra 2, .inl (kI, 8, .inl q_told)), (ra 11, .inl (kI, 1019, .inl q_now)), (m0, .inr (11, oX11 ra y17)), (ra 19, .inl (kI, 12, .inl f18)), (ra 20, .inl (kI, 10, .inl f19)), (ra 21, .inl (kI, 10, .inl f20))] H := hPa
                have hD : va_D A [(ra 2, .inl (kI, 8, .inl q_told)), (ra 11, .inl (kI, 1019, .inl q_now)), (m0, .inr (11, oX11 ra y17)), (ra 19, .inl (kI, 12, .inl f18)), (ra 20, .inl (kI, 10, .inl f19)), (ra 21, .inl (kI, 10, .inl f20))] := hDa
                clear hPa hDa
                refine W.widen (k := 0) (n := 0) (Nat.le_of_ble_eq_true rfl) (Nat.le_of_ble_eq_true rfl) ?_
                refine lv_goto (tgt := 109) hx hb dX11_diamond_100 rfl ?_
                have hPD9 := cl_s (wc := [(m0, .inr (11, oX11 ra y17)), (ra 2, .inl (kI, 8, .inl q_told)), (ra 11, .inl (kI, 1019, .inl q_now)), (ra 19, .inl (kI, 12, .inl f18)), (ra 20, .inl (kI, 10, .inl f19)), (ra 21, .inl (kI, 10, .inl f20))]) hP hD [2, 0, 1, 3, 4, 5] rfl (by decide +kernel)
                have hP9 := hPD9.1
                have hD9 := hPD9.2
                exact W.iret (v := r54) hx hb hr (fun t ht hW => ⟨⟨r54, (), rfl, w55, y17, f18, f19, f20, hq21, hq22, hq23, (show y17 1 = x0 1 from hq24), (show y17 10 = x0 10 from hq25), (show y17 11 = x0 11 from hq26), (show y17 14 = x0 14 from hq27), by rw [ht]; exact hP9, hD9⟩, hS.F ht⟩) hS.2.2 dX11_diamond_109
            · have b56 : iv 1 1 p2 := iv_eqL c47 ivk_1
              refine lv_aload_n hx hb dX11_diamond_81 rfl (lv_at hl 0 rfl) ?_
              refine va_get (D := (dC, dI)) (ci := 11) (v := .ref (ra 21)) (C := RX11) (T := TX11) (N := 61) hx hb hts hin11 hown hK hP 1 rfl rfl 39 (Nat.le_of_ble_eq_true rfl) hw_2 (fun _ h9 => h9) rfl dX11_diamond_82 ?_
              refine lv_iload_n hx hb dX11_diamond_85 rfl (lv_at hl 2 rfl) ?_
              refine va_iald hx hb hK hP 5 1 rfl rfl (iv_in b44 (by decide) (by decide)) dX11_diamond_86 ?_
              refine iv_top (a := 0) (b := 10) (hq23 _) (fun z57 b58 => ?_)
              refine lv_goto (tgt := 109) hx hb dX11_diamond_87 rfl ?_
              have hPD9 := cl_s (wc := [(m0, .inr (11, oX11 ra y17)), (ra 2, .inl (kI, 8, .inl q_told)), (ra 11, .inl (kI, 1019, .inl q_now)), (ra 19, .inl (kI, 12, .inl f18)), (ra 20, .inl (kI, 10, .inl f19)), (ra 21, .inl (kI, 10, .inl f20))]) hP hD [1, 0, 2, 3, 4, 5] rfl (by decide +kernel)
              have hP9 := hPD9.1
              have hD9 := hPD9.2
              exact W.iret (v := z57) hx hb hr (fun t ht hW => ⟨⟨z57, (), rfl, (iv_w b58 (by decide) (by decide)), y17, f18, f19, f20, hq21, hq22, hq23, (show y17 1 = x0 1 from hq24), (show y17 10 = x0 10 from hq25), (show y17 11 = x0 11 from hq26), (show y17 14 = x0 14 from hq27), by rw [ht]; exact hP9, hD9⟩, hS.F ht⟩) hS.2.2 dX11_diamond_109
          · have b59 : iv 0 0 p2 := iv_eqL c45 ivk_0
            refine lv_aload_n hx hb dX11_diamond_67 rfl (lv_at hl 0 rfl) ?_
            refine va_get (D := (dC, dI)) (ci := 11) (v := .ref (ra 20)) (C := RX11) (T := TX11) (N := 61) hx hb hts hin11 hown hK hP 1 rfl rfl 38 (Nat.le_of_ble_eq_true rfl) hw_3 (fun _ h9 => h9) rfl dX11_diamond_68 ?_
            refine lv_iload_n hx hb dX11_diamond_71 rfl (lv_at hl 2 rfl) ?_
            refine va_iald hx hb hK hP 4 1 rfl rfl (iv_in b44 (by decide) (by decide)) dX11_diamond_72 ?_
            refine iv_top (a := 0) (b := 10) (hq22 _) (fun z60 b61 => ?_)
            refine lv_goto (tgt := 109) hx hb dX11_diamond_73 rfl ?_
            have hPD9 := cl_s (wc := [(m0, .inr (11, oX11 ra y17)), (ra 2, .inl (kI, 8, .inl q_told)), (ra 11, .inl (kI, 1019, .inl q_now)), (ra 19, .inl (kI, 12, .inl f18)), (ra 20, .inl (kI, 10, .inl f19)), (ra 21, .inl (kI, 10, .inl f20))]) hP hD [1, 0, 2, 3, 4, 5] rfl (by decide +kernel)
            have hP9 := hPD9.1
            have hD9 := hPD9.2
            exact W.iret (v := z60) hx hb hr (fun t ht hW => ⟨⟨z60, (), rfl, (iv_w b61 (by decide) (by decide)), y17, f18, f19, f20, hq21, hq22, hq23, (show y17 1 = x0 1 from hq24), (show y17 10 = x0 10 from hq25), (show y17 11 = x0 11 from hq26), (show y17 14 = x0 14 from hq27), by rw [ht]; exact hP9, hD9⟩, hS.F ht⟩) hS.2.2 dX11_diamond_109
        · have b62 : iv (-1) (-1) p1 := iv_eqL c43 ivk_m1
          refine lv_aload_n hx hb dX11_diamond_58 rfl (lv_at hl 0 rfl) ?_
          refine va_get (D := (dC, dI)) (ci := 11) (v := .int (y17 18)) (C := RX11) (T := TX11) (N := 61) hx hb hts hin11 hown hK hP 1 rfl rfl 40 (Nat.le_of_ble_eq_true rfl) hw_1 (fun _ h9 => h9) rfl dX11_diamond_59 ?_
          have hPD9 := cl_s (wc := [(m0, .inr (11, oX11 ra y17)), (ra 2, .inl (kI, 8, .inl q_told)), (ra 11, .inl (kI, 1019, .inl q_now)), (ra 19, .inl (kI, 12, .inl f18)), (ra 20, .inl (kI, 10, .inl f19)), (ra 21, .inl (kI, 10, .inl f20))]) hP hD [1, 0, 2, 3, 4, 5] rfl (by decide +kernel)
          have hP9 := hPD9.1
          have hD9 := hPD9.2
          exact W.iret (v := y17 18) hx hb hr (fun t ht hW => ⟨⟨y17 18, (), rfl, (iv_w (hq21 18 : iv 0 10 (y17 18)) (by decide) (by decide)), y17, f18, f19, f20, hq21, hq22, hq23, (show y17 1 = x0 1 from hq24), (show y17 10 = x0 10 from hq25), (show y17 11 = x0 11 from hq26), (show y17 14 = x0 14 from hq27), by rw [ht]; exact hP9, hD9⟩, hS.F ht⟩) hS.2.2 dX11_diamond_62
      · have b63 : iv 0 0 r37 := iv_eqL c39 ivk_0
        have hPD9 := cl_s (wc := [(m0, .inr (11, oX11 ra y17)), (ra 2, .inl (kI, 8, .inl q_told)), (ra 11, .inl (kI, 1019, .inl q_now)), (ra 19, .inl (kI, 12, .inl f18)), (ra 20, .inl (kI, 10, .inl f19)), (ra 21, .inl (kI, 10, .inl f20))]) hP hD [1, 0, 2, 3, 4, 5] rfl (by decide +kernel)
        exact hJ47 y17 f18 f19 f20 _ _ _ (hq21) (hq22) (hq23) (b14) ((show y17 1 = x0 1 from hq24)) ((show y17 10 = x0 10 from hq25)) ((show y17 11 = x0 11 from hq26)) ((show y17 14 = x0 14 from hq27)) (hPD9.1) (hPD9.2) hS (lv_sub hl [0, 1, 2, 3] rfl)
  · have b64 : iv 0 0 r10 := iv_eqL c12 ivk_0
    refine lv_aload_n hx hb dX11_diamond_13 rfl (lv_at hl 0 rfl) ?_
    refine lv_iconst (v := 1) hx hb dX11_diamond_14 ic_1 ?_
    obtain ⟨hPc, hDc, hFc, hJn⟩ := cl_a (wc := [(m0, .inr (11, oX11 ra (upd x0 0 0)))]) (wr := [(ra 11, .inl (kI, 1019, .inl q_now)), (ra 19, .inl (kI, 12, .inl q_wide)), (ra 20, .inl (kI, 10, .inl q_diamondFrom)), (ra 21, .inl (kI, 10, .inl q_diamondTo)), (ra 2, .inl (kI, 8, .inl q_told))]) hP hD hS hA [4] [0, 1, 2, 3, 5] rfl rfl (by decide +kernel)
    refine va_calli (va_runV (As := [.int 1]) (rest := []) ⟨hx, hb, hml, hown, hts⟩ (s11_fail l dC dI kB kI kJ kZ kC kS H.size m0 ra (upd x0 0 0) 1 ((fI_u hX (k := 0) ((iv_w ivk_0 (by decide) (by decide)))))) (cwV 1 hts gX11_diamond_X11_fail rfl rfl rfl (by decide +kernel) ⟨Nat.le_of_ble_eq_true rfl, Nat.le_of_ble_eq_true rfl⟩) ⟨fun a U g mk q => by obtain ⟨q0, q1, qP, qE, qD⟩ := q; exact ⟨q0, q1, qP, kE_call qE, qD⟩, va_recv hK hP (ci := 11) (q0 := 4) rfl rfl, fun U hU hW => ⟨rfl, by rw [hU], by rw [hU]; exact hPc, kE_warm hW hE, hDc.weaken (fun _ _ _ _ => trivial)⟩⟩ rfl rfl hl.1 rfl (lv_room (Nat.le_of_ble_eq_true rfl)) dX11_diamond_15 ⟨Nat.le_of_ble_eq_true rfl, Nat.le_of_ble_eq_true rfl⟩) hS (fun q _ h => hFc q h) hFc (fun r65 u t H locs ht hvm w66 hB hz1 hk1 hS => ?_)
    obtain ⟨y67, hq68, hq69, hq70, hq71, hq72, hq73, hP1, hD1⟩ := hB
    try dsimp only at w66
    obtain ⟨hPa, hDa⟩ := hJn (w1 := [(m0, .inr (11, oX11 ra y67))]) hk1 ht hP1 hD1
    clear hP hD hPc hDc hFc hJn hP1 hD1 hk1
    have hP : va_P (dC, dI) vwCl [(ra 11, .inl (kI, 1019, .inl q_now)), (ra 19, .inl (kI, 12, .inl q_wide)), (ra 20, .inl (kI, 10, .inl q_diamondFrom)), (ra 21, .inl (kI, 10, .inl q_diamondTo)), (ra 2, .inl (kI, 8, .inl q_told)), (m0, .inr (11, oX11 ra y67))] H := hPa
    have hD : va_D A [(ra 11, .inl (kI, 1019, .inl q_now)), (ra 19, .inl (kI, 12, .inl q_wide)), (ra 20, .inl (kI, 10, .inl q_diamondFrom)), (ra 21, .inl (kI, 10, .inl q_diamondTo)), (ra 2, .inl (kI, 8, .inl q_told)), (m0, .inr (11, oX11 ra y67))] := hDa
    clear hPa hDa
    refine W.widen (k := 0) (n := 0) (Nat.le_of_ble_eq_true rfl) (Nat.le_of_ble_eq_true rfl) ?_
    obtain rfl : r65 = 0 := iv_one w66 (by decide)
    have hPD9 := cl_s (wc := [(m0, .inr (11, oX11 ra y67)), (ra 2, .inl (kI, 8, .inl q_told)), (ra 11, .inl (kI, 1019, .inl q_now)), (ra 19, .inl (kI, 12, .inl q_wide)), (ra 20, .inl (kI, 10, .inl q_diamondFrom)), (ra 21, .inl (kI, 10, .inl q_diamondTo))]) hP hD [5, 4, 0, 1, 2, 3] rfl (by decide +kernel)
    have hP9 := hPD9.1
    have hD9 := hPD9.2
    exact W.iret (v := 0) hx hb hr (fun t ht hW => ⟨⟨0, (), rfl, (iv_w ivk_0 (by decide) (by decide)), y67, q_wide, q_diamondFrom, q_diamondTo, hq68, hq_diamondFrom, hq_diamondTo, (show y67 1 = x0 1 from hq70), (show y67 10 = x0 10 from hq71), (show y67 11 = x0 11 from hq72), (show y67 14 = x0 14 from hq73), by rw [ht]; exact hP9, hD9⟩, hS.F ht⟩) hS.2.2 dX11_diamond_18
def rm_s11_loop : Room := { frames := 3, cells := 0, slots := 0, locals := 69 }
set_option maxHeartbeats 4000000 in
set_option maxRecDepth 100000 in
theorem s11_loop (l : Launch) (dC : Nat → ClassId) (dI : Nat → Nat → Nat) (kB kI kJ kZ kC kS : ClassId) (sz : Nat) (m0 : Nat) (ra : Nat → Nat) (x0 : Nat → Int32) (q_told : Nat → Int32) (q_kind : Nat → Int32) (q_late : Nat → Int32) (q_from : Nat → Int32) (q_to : Nat → Int32) (q_goal : Nat → Int32) (q_now : Nat → Int32) (q_reach : Nat → Int32) (p0 : Int32) (p1 : Int32) (p2 : Int32) (hX : fI lX11 hX11 x0) (hq_told : fI lTold hTold q_told) (hq_from : fI (fun _ => 0) (fun _ => 11) q_from) (hq_to : fI (fun _ => 0) (fun _ => 11) q_to) (hq_goal : fI (fun _ => 0) (fun _ => 11) q_goal) (hq_now : fI lNow hNow q_now) : Met l yX11_loop wsX11_loop rm_s11_loop (va_Pc [.ref m0, .int p0, .int p1, .int p2] (fun U => U.heap.size = sz ∧ va_P (dC, dI) vwCl [(m0, .inr (11, oX11 ra x0)), (ra 2, .inl (kI, 8, .inl q_told)), (ra 3, .inl (kI, 24, .inl q_kind)), (ra 7, .inl (kI, 24, .inl q_late)), (ra 8, .inl (kI, 40, .inl q_from)), (ra 9, .inl (kI, 40, .inl q_to)), (ra 10, .inl (kI, 6, .inl q_goal)), (ra 11, .inl (kI, 1019, .inl q_now)), (ra 14, .inl (kI, 12, .inl q_reach))] U.heap ∧ kE dC dI kB kI kJ kZ kC kS U ∧ va_D (fun _ => True) [(m0, .inr (11, oX11 ra x0)), (ra 2, .inl (kI, 8, .inl q_told)), (ra 3, .inl (kI, 24, .inl q_kind)), (ra 7, .inl (kI, 24, .inl q_late)), (ra 8, .inl (kI, 40, .inl q_from)), (ra 9, .inl (kI, 40, .inl q_to)), (ra 10, .inl (kI, 6, .inl q_goal)), (ra 11, .inl (kI, 1019, .inl q_now)), (ra 14, .inl (kI, 12, .inl q_reach))])) (va_Qi (fun (r : Int32) (_ : Unit) => iv (-1) 9 r) (fun _ t => ∃ (x0' : Nat → Int32), fI lX11 hX11 x0' ∧ (x0' 1 = x0 1) ∧ (x0' 10 = x0 10) ∧ (x0' 11 = x0 11) ∧ (x0' 14 = x0 14) ∧ va_P (dC, dI) vwCl [(m0, .inr (11, oX11 ra x0')), (ra 2, .inl (kI, 8, .inl q_told)), (ra 3, .inl (kI, 24, .inl q_kind)), (ra 7, .inl (kI, 24, .inl q_late)), (ra 8, .inl (kI, 40, .inl q_from)), (ra 9, .inl (kI, 40, .inl q_to)), (ra 10, .inl (kI, 6, .inl q_goal)), (ra 11, .inl (kI, 1019, .inl q_now)), (ra 14, .inl (kI, 12, .inl q_reach))] t.heap ∧ va_D (va_A [(m0, .inr (11, oX11 ra x0)), (ra 2, .inl (kI, 8, .inl q_told)), (ra 3, .inl (kI, 24, .inl q_kind)), (ra 7, .inl (kI, 24, .inl q_late)), (ra 8, .inl (kI, 40, .inl q_from)), (ra 9, .inl (kI, 40, .inl q_to)), (ra 10, .inl (kI, 6, .inl q_goal)), (ra 11, .inl (kI, 1019, .inl q_now)), (ra 14, .inl (kI, 12, .inl q_reach))] sz) [(m0, .inr (11, oX11 ra x0')), (ra 2, .inl (kI, 8, .inl q_told)), (ra 3, .inl (kI, 24, .inl q_kind)), (ra 7, .inl (kI, 24, .inl q_late)), (ra 8, .inl (kI, 40, .inl q_from)), (ra 9, .inl (kI, 40, .inl q_to)), (ra 10, .inl (kI, 6, .inl q_goal)), (ra 11, .inl (kI, 1019, .inl q_now)), (ra 14, .inl (kI, 12, .inl q_reach))]) (va_A [(m0, .inr (11, oX11 ra x0)), (ra 2, .inl (kI, 8, .inl q_told)), (ra 3, .inl (kI, 24, .inl q_kind)), (ra 7, .inl (kI, 24, .inl q_late)), (ra 8, .inl (kI, 40, .inl q_from)), (ra 9, .inl (kI, 40, .inl q_to)), (ra 10, .inl (kI, 6, .inl q_goal)), (ra 11, .inl (kI, 1019, .inl q_now)), (ra 14, .inl (kI, 12, .inl q_reach))] sz)) 0 0 (va_A [(m0, .inr (11, oX11 ra x0)), (ra 2, .inl (kI, 8, .inl q_told)), (ra 3, .inl (kI, 24, .inl q_kind)), (ra 7, .inl (kI, 24, .inl q_late)), (ra 8, .inl (kI, 40, .inl q_from)), (ra 9, .inl (kI, 40, .inl q_to)), (ra 10, .inl (kI, 6, .inl q_goal)), (ra 11, .inl (kI, 1019, .inl q_now)), (ra 14, .inl (kI, 12, .inl q_reach))] sz) := by
  refine Met.ofW (cc := cX11_loop) (maxL := 5) (ret := (some .int)) (by decide) rfl ?_
  intro p e s m args0 below meth c s₁ B hml hv
  obtain ⟨hargs, hsz, hP, hE, hD0⟩ := hv
  have hx := B.exec
  have hb := B.bytes
  have hr := B.returns
  have hts := atoms_spec (ws := wsX11_loop) B.pre
  have hown : s.vm.findClass RX11 = some m.cls := findClass_of_methodNamed B.named
  have hlocks := B.notSynchronized
  have hK := hE.1
  have hin11 : ∀ w ∈ wsX110, w ∈ wsX11_loop := fun _ h9 => List.mem_cons_of_mem _ (List.mem_append_right _ h9)
  have hw_0 := hts (.fieldLink RX11 142 "PathProberModel" "code" "I") (List.mem_of_getElem? (i := 1) rfl)
  subst hsz
  have hD := hD0.self (sz := s.heap.size)
  generalize hAe : va_A [(m0, .inr (11, oX11 ra x0)), (ra 2, .inl (kI, 8, .inl q_told)), (ra 3, .inl (kI, 24, .inl q_kind)), (ra 7, .inl (kI, 24, .inl q_late)), (ra 8, .inl (kI, 40, .inl q_from)), (ra 9, .inl (kI, 40, .inl q_to)), (ra 10, .inl (kI, 6, .inl q_goal)), (ra 11, .inl (kI, 1019, .inl q_now)), (ra 14, .inl (kI, 12, .inl q_reach))] s.heap.size = A at hD ⊢
  have hA : ∀ q : Nat, s.heap.size ≤ q → A q := fun q h => by rw [← hAe]; exact Or.inr h
  have hS : va_S A s.heap s.heap [] := va_S.rf
  have hP : va_P (dC, dI) vwCl [(m0, .inr (11, oX11 ra x0)), (ra 2, .inl (kI, 8, .inl q_told)), (ra 3, .inl (kI, 24, .inl q_kind)), (ra 7, .inl (kI, 24, .inl q_late)), (ra 8, .inl (kI, 40, .inl q_from)), (ra 9, .inl (kI, 40, .inl q_to)), (ra 10, .inl (kI, 6, .inl q_goal)), (ra 11, .inl (kI, 1019, .inl q_now)), (ra 14, .inl (kI, 12, .inl q_reach))] s.heap := hP
  have hl := lv_entry ([.ref m0, .int p0, .int p1, .int p2]) (n := 5) (Nat.le_of_ble_eq_true rfl)
  have hla : entryFrame m args0 5 = entryFrame m ([.ref m0, .int p0, .int p1, .int p2] : List Value).toArray 5 := by rw [hargs]
  rw [hla, lg_entry_eq]
  generalize (lg_sl ([.ref m0, .int p0, .int p1, .int p2]) ++ List.replicate (5 - (lg_sl ([.ref m0, .int p0, .int p1, .int p2])).length) Slot.unset).toArray = ls at hl ⊢
  have hl : lv_has ls 5 [(0, .ref m0), (1, .int p0), (2, .int p1), (3, .int p2)] := hl
  have hJ29 : ∀ (y29_0 : Nat → Int32) (H : Heap) (locs : List Loc) (ls : Array Slot), fI lX11 hX11 y29_0 → iv 0 0 (y29_0 0) → (y29_0 1 = x0 1) → (y29_0 10 = x0 10) → (y29_0 11 = x0 11) → (y29_0 14 = x0 14) → va_P (dC, dI) vwCl [(m0, .inr (11, oX11 ra y29_0)), (ra 2, .inl (kI, 8, .inl q_told)), (ra 3, .inl (kI, 24, .inl q_kind)), (ra 7, .inl (kI, 24, .inl q_late)), (ra 8, .inl (kI, 40, .inl q_from)), (ra 9, .inl (kI, 40, .inl q_to)), (ra 10, .inl (kI, 6, .inl q_goal)), (ra 11, .inl (kI, 1019, .inl q_now)), (ra 14, .inl (kI, 12, .inl q_reach))] H → va_D A [(m0, .inr (11, oX11 ra y29_0)), (ra 2, .inl (kI, 8, .inl q_told)), (ra 3, .inl (kI, 24, .inl q_kind)), (ra 7, .inl (kI, 24, .inl q_late)), (ra 8, .inl (kI, 40, .inl q_from)), (ra 9, .inl (kI, 40, .inl q_to)), (ra 10, .inl (kI, 6, .inl q_goal)), (ra 11, .inl (kI, 1019, .inl q_now)), (ra 14, .inl (kI, 12, .inl q_reach))] → va_S A s.heap H locs → lv_has ls 5 [(0, .ref m0), (1, .int p0), (2, .int p1), (3, .int p2)] → W p l e (headSpec wsX11_loop rm_s11_loop).room s m args0 below meth c H locs (0) (0) (MQ below (va_Qi (fun (r : Int32) (_ : Unit) => iv (-1) 9 r) (fun _ t => ∃ (x0' : Nat → Int32), fI lX11 hX11 x0' ∧ (x0' 1 = x0 1) ∧ (x0' 10 = x0 10) ∧ (x0' 11 = x0 11) ∧ (x0' 14 = x0 14) ∧ va_P (dC, dI) vwCl [(m0, .inr (11, oX11 ra x0')), (ra 2, .inl (kI, 8, .inl q_told)), (ra 3, .inl (kI, 24, .inl q_kind)), (ra 7, .inl (kI, 24, .inl q_late)), (ra 8, .inl (kI, 40, .inl q_from)), (ra 9, .inl (kI, 40, .inl q_to)), (ra 10, .inl (kI, 6, .inl q_goal)), (ra 11, .inl (kI, 1019, .inl q_now)), (ra 14, .inl (kI, 12, .inl q_reach))] t.heap ∧ va_D A [(m0, .inr (11, oX11 ra x0')), (ra 2, .inl (kI, 8, .inl q_told)), (ra 3, .inl (kI, 24, .inl q_kind)), (ra 7, .inl (kI, 24, .inl q_late)), (ra 8, .inl (kI, 40, .inl q_from)), (ra 9, .inl (kI, 40, .inl q_to)), (ra 10, .inl (kI, 6, .inl q_goal)), (ra 11, .inl (kI, 1019, .inl q_now)), (ra 14, .inl (kI, 12, .inl q_reach))]) A) args0 s 0 0 A) (F0 m 29 ls []) := by
    intro y29_0 H locs ls hI29_0 h29_2 htp_29 hfp_29 hor_29 hirl_29 hP hD hS hl
    refine lv_aload_n hx hb dX11_loop_29 rfl (lv_at hl 0 rfl) ?_
    refine lv_iconst (v := 1) hx hb dX11_loop_30 ic_1 ?_
    obtain ⟨hPc, hDc, hFc, hJn⟩ := cl_a (wc := [(m0, .inr (11, oX11 ra y29_0))]) (wr := [(ra 2, .inl (kI, 8, .inl q_told)), (ra 3, .inl (kI, 24, .inl q_kind)), (ra 7, .inl (kI, 24, .inl q_late)), (ra 8, .inl (kI, 40, .inl q_from)), (ra 9, .inl (kI, 40, .inl q_to)), (ra 10, .inl (kI, 6, .inl q_goal)), (ra 11, .inl (kI, 1019, .inl q_now)), (ra 14, .inl (kI, 12, .inl q_reach))]) hP hD hS hA [0] [1, 2, 3, 4, 5, 6, 7, 8] rfl rfl (by decide +kernel)
    refine va_calli (va_runV (As := [.int 1]) (rest := []) ⟨hx, hb, hml, hown, hts⟩ (s11_fail l dC dI kB kI kJ kZ kC kS H.size m0 ra y29_0 1 (hI29_0)) (cwV 1 hts gX11_loop_X11_fail rfl rfl rfl (by decide +kernel) ⟨Nat.le_of_ble_eq_true rfl, Nat.le_of_ble_eq_true rfl⟩) ⟨fun a U g mk q => by obtain ⟨q0, q1, qP, qE, qD⟩ := q; exact ⟨q0, q1, qP, kE_call qE, qD⟩, va_recv hK hP (ci := 11) (q0 := 0) rfl rfl, fun U hU hW => ⟨rfl, by rw [hU], by rw [hU]; exact hPc, kE_warm hW hE, hDc.weaken (fun _ _ _ _ => trivial)⟩⟩ rfl rfl hl.1 rfl (lv_room (Nat.le_of_ble_eq_true rfl)) dX11_loop_31 ⟨Nat.le_of_ble_eq_true rfl, Nat.le_of_ble_eq_true rfl⟩) hS (fun q _ h => hFc q h) hFc (fun r1 u t H locs ht hvm w2 hB hz1 hk1 hS => ?_)
    obtain ⟨y3, hq4, hq5, hq6, hq7, hq8, hq9, hP1, hD1⟩ := hB
    try dsimp only at w2
    obtain ⟨hPa, hDa⟩ := hJn (w1 := [(m0, .inr (11, oX11 ra y3))]) hk1 ht hP1 hD1
    clear hP hD hPc hDc hFc hJn hP1 hD1 hk1
    have hP : va_P (dC, dI) vwCl [(ra 2, .inl (kI, 8, .inl q_told)), (ra 3, .inl (kI, 24, .inl q_kind)), (ra 7, .inl (kI, 24, .inl q_late)), (ra 8, .inl (kI, 40, .inl q_from)), (ra 9, .inl (kI, 40, .inl q_to)), (ra 10, .inl (kI, 6, .inl q_goal)), (ra 11, .inl (kI, 1019, .inl q_now)), (ra 14, .inl (kI, 12, .inl q_reach)), (m0, .inr (11, oX11 ra y3))] H := hPa
    have hD : va_D A [(ra 2, .inl (kI, 8, .inl q_told)), (ra 3, .inl (kI, 24, .inl q_kind)), (ra 7, .inl (kI, 24, .inl q_late)), (ra 8, .inl (kI, 40, .inl q_from)), (ra 9, .inl (kI, 40, .inl q_to)), (ra 10, .inl (kI, 6, .inl q_goal)), (ra 11, .inl (kI, 1019, .inl q_now)), (ra 14, .inl (kI, 12, .inl q_reach)), (m0, .inr (11, oX11 ra y3))] := hDa
    clear hPa hDa
    refine W.widen (k := 0) (n := 0) (Nat.le_of_ble_eq_true rfl) (Nat.le_of_ble_eq_true rfl) ?_
    obtain rfl : r1 = 0 := iv_one w2 (by decide)
    have hPD9 := cl_s (wc := [(m0, .inr (11, oX11 ra y3)), (ra 2, .inl (kI, 8, .inl q_told)), (ra 3, .inl (kI, 24, .inl q_kind)), (ra 7, .inl (kI, 24, .inl q_late)), (ra 8, .inl (kI, 40, .inl q_from)), (ra 9, .inl (kI, 40, .inl q_to)), (ra 10, .inl (kI, 6, .inl q_goal)), (ra 11, .inl (kI, 1019, .inl q_now)), (ra 14, .inl (kI, 12, .inl q_reach))]) hP hD [8, 0, 1, 2, 3, 4, 5, 6, 7] rfl (by decide +kernel)
    have hP9 := hPD9.1
    have hD9 := hPD9.2
    exact W.iret (v := 0) hx hb hr (fun t ht hW => ⟨⟨0, (), rfl, (iv_w ivk_0 (by decide) (by decide)), y3, hq4, (show y3 1 = x0 1 from hq6.trans (htp_29)), (show y3 10 = x0 10 from hq7.trans (hfp_29)), (show y3 11 = x0 11 from hq8.trans (hor_29)), (show y3 14 = x0 14 from hq9.trans (hirl_29)), by rw [ht]; exact hP9, hD9⟩, hS.F ht⟩) hS.2.2 dX11_loop_34
  refine lv_aload_n hx hb dX11_loop_0 rfl (lv_at hl 0 rfl) ?_
  refine lv_iconst (v := 0) hx hb dX11_loop_1 ic_0 ?_
  refine va_put (D := (dC, dI)) (ci := 11) (v := .int 0) (ty := .int) (C := RX11) (T := TX11) (N := 61) hx hb hts hin11 tyX11 tyX11_ok nmX11 hown hK hP hD hS 0 rfl rfl 2 (by decide) hw_0 (fun _ h9 => h9) rfl (by decide +kernel) rfl rfl (Nat.le_of_ble_eq_true rfl) dX11_loop_2 (fun H locs hPa hDa hS => ?_)
  clear hP hD
  have hP : va_P (dC, dI) vwCl [(m0, .inr (11, oX11 ra (upd x0 0 0))), (ra 2, .inl (kI, 8, .inl q_told)), (ra 3, .inl (kI, 24, .inl q_kind)), (ra 7, .inl (kI, 24, .inl q_late)), (ra 8, .inl (kI, 40, .inl q_from)), (ra 9, .inl (kI, 40, .inl q_to)), (ra 10, .inl (kI, 6, .inl q_goal)), (ra 11, .inl (kI, 1019, .inl q_now)), (ra 14, .inl (kI, 12, .inl q_reach))] H := hPa
  have hD : va_D A [(m0, .inr (11, oX11 ra (upd x0 0 0))), (ra 2, .inl (kI, 8, .inl q_told)), (ra 3, .inl (kI, 24, .inl q_kind)), (ra 7, .inl (kI, 24, .inl q_late)), (ra 8, .inl (kI, 40, .inl q_from)), (ra 9, .inl (kI, 40, .inl q_to)), (ra 10, .inl (kI, 6, .inl q_goal)), (ra 11, .inl (kI, 1019, .inl q_now)), (ra 14, .inl (kI, 12, .inl q_reach))] := hDa
  clear hPa hDa
  refine lv_iload_n hx hb dX11_loop_5 rfl (lv_at hl 1 rfl) ?_
  obtain ⟨hPc, hDc, hFc, hJn⟩ := cl_a (wc := []) (wr := [(m0, .inr (11, oX11 ra (upd x0 0 0))), (ra 2, .inl (kI, 8, .inl q_told)), (ra 3, .inl (kI, 24, .inl q_kind)), (ra 7, .inl (kI, 24, .inl q_late)), (ra 8, .inl (kI, 40, .inl q_from)), (ra 9, .inl (kI, 40, .inl q_to)), (ra 10, .inl (kI, 6, .inl q_goal)), (ra 11, .inl (kI, 1019, .inl q_now)), (ra 14, .inl (kI, 12, .inl q_reach))]) hP hD hS hA [] [0, 1, 2, 3, 4, 5, 6, 7, 8] rfl rfl (by decide +kernel)
  refine va_calli (va_runS (As := [.int p0]) (rest := []) ⟨hx, hb, hml, hown, hts⟩ (s11_isPort l dC dI kB kI kJ kZ kC kS H.size p0) (va_cwS 1 hts gX11_loop_X11_isPort rfl rfl rfl (by decide +kernel) ⟨Nat.le_of_ble_eq_true rfl, Nat.le_of_ble_eq_true rfl⟩) ⟨fun a U g mk q => by obtain ⟨q0, q1, qP, qE, qD⟩ := q; exact ⟨q0, q1, qP, kE_call qE, qD⟩, fun U hU hW => ⟨rfl, by rw [hU], by rw [hU]; exact hPc, kE_warm hW hE, hDc.weaken (fun _ _ _ _ => trivial)⟩⟩ rfl rfl hl.1 rfl (lv_room (Nat.le_of_ble_eq_true rfl)) dX11_loop_6 ⟨Nat.le_of_ble_eq_true rfl, Nat.le_of_ble_eq_true rfl⟩) hS (fun q _ h => hFc q h) hFc (fun r10 u t H locs ht hvm w11 hB hz1 hk1 hS => ?_)
  obtain ⟨hP1, hD1⟩ := hB
  try dsimp only at w11
  obtain ⟨hPa, hDa⟩ := hJn (w1 := []) hk1 ht hP1 hD1
  clear hP hD hPc hDc hFc hJn hP1 hD1 hk1
  have hP : va_P (dC, dI) vwCl [(m0, .inr (11, oX11 ra (upd x0 0 0))), (ra 2, .inl (kI, 8, .inl q_told)), (ra 3, .inl (kI, 24, .inl q_kind)), (ra 7, .inl (kI, 24, .inl q_late)), (ra 8, .inl (kI, 40, .inl q_from)), (ra 9, .inl (kI, 40, .inl q_to)), (ra 10, .inl (kI, 6, .inl q_goal)), (ra 11, .inl (kI, 1019, .inl q_now)), (ra 14, .inl (kI, 12, .inl q_reach))] H := hPa
  have hD : va_D A [(m0, .inr (11, oX11 ra (upd x0 0 0))), (ra 2, .inl (kI, 8, .inl q_told)), (ra 3, .inl (kI, 24, .inl q_kind)), (ra 7, .inl (kI, 24, .inl q_late)), (ra 8, .inl (kI, 40, .inl q_from)), (ra 9, .inl (kI, 40, .inl q_to)), (ra 10, .inl (kI, 6, .inl q_goal)), (ra 11, .inl (kI, 1019, .inl q_now)), (ra 14, .inl (kI, 12, .inl q_reach))] := hDa
  clear hPa hDa
  refine W.widen (k := 0) (n := 0) (Nat.le_of_ble_eq_true rfl) (Nat.le_of_ble_eq_true rfl) ?_
  refine lv_if_eq (tgt := 29) hx hb dX11_loop_9 rfl (fun c12 => ?_) (fun c12 => ?_)
  · have b13 : iv 0 0 r10 := iv_eqL c12 ivk_0
    exact hJ29 (upd x0 0 0) _ _ _ ((fI_u hX (k := 0) ((iv_w ivk_0 (by decide) (by decide))))) (ivk_0) ((show x0 1 = x0 1 from rfl)) ((show x0 10 = x0 10 from rfl)) ((show x0 11 = x0 11 from rfl)) ((show x0 14 = x0 14 from rfl)) (hP) (hD) hS (lv_sub hl [0, 1, 2, 3] rfl)
  · have b14 : iv 1 1 r10 := iv_neLo c12 w11.1 ivk_0 (by decide) (by decide)
    have b15 : iv 0 31 p0 := (w11.2).resolve_left (iv_ne b14 ivk_0 (by decide))
    refine lv_aload_n hx hb dX11_loop_12 rfl (lv_at hl 0 rfl) ?_
    refine lv_iload_n hx hb dX11_loop_13 rfl (lv_at hl 2 rfl) ?_
    obtain ⟨hPc, hDc, hFc, hJn⟩ := cl_a (wc := [(m0, .inr (11, oX11 ra (upd x0 0 0))), (ra 2, .inl (kI, 8, .inl q_told))]) (wr := [(ra 3, .inl (kI, 24, .inl q_kind)), (ra 7, .inl (kI, 24, .inl q_late)), (ra 8, .inl (kI, 40, .inl q_from)), (ra 9, .inl (kI, 40, .inl q_to)), (ra 10, .inl (kI, 6, .inl q_goal)), (ra 11, .inl (kI, 1019, .inl q_now)), (ra 14, .inl (kI, 12, .inl q_reach))]) hP hD hS hA [0, 1] [2, 3, 4, 5, 6, 7, 8] rfl rfl (by decide +kernel)
    refine va_calli (va_runV (As := [.int p1]) (rest := []) ⟨hx, hb, hml, hown, hts⟩ (s11_isGoal l dC dI kB kI kJ kZ kC kS H.size m0 ra (upd x0 0 0) q_told p1 ((fI_u hX (k := 0) ((iv_w ivk_0 (by decide) (by decide))))) (hq_told)) (cwV 1 hts gX11_loop_X11_isGoal rfl rfl rfl (by decide +kernel) ⟨Nat.le_of_ble_eq_true rfl, Nat.le_of_ble_eq_true rfl⟩) ⟨fun a U g mk q => by obtain ⟨q0, q1, qP, qE, qD⟩ := q; exact ⟨q0, q1, qP, kE_call qE, qD⟩, va_recv hK hP (ci := 11) (q0 := 0) rfl rfl, fun U hU hW => ⟨rfl, by rw [hU], by rw [hU]; exact hPc, kE_warm hW hE, hDc.weaken (fun _ _ _ _ => trivial)⟩⟩ rfl rfl hl.1 rfl (lv_room (Nat.le_of_ble_eq_true rfl)) dX11_loop_14 ⟨Nat.le_of_ble_eq_true rfl, Nat.le_of_ble_eq_true rfl⟩) hS (fun q _ h => hFc q h) hFc (fun r16 u t H locs ht hvm w17 hB hz1 hk1 hS => ?_)
    obtain ⟨hP1, hD1⟩ := hB
    try dsimp only at w17
    obtain ⟨hPa, hDa⟩ := hJn (w1 := [(m0, .inr (11, oX11 ra (upd x0 0 0))), (ra 2, .inl (kI, 8, .inl q_told))]) hk1 ht hP1 hD1
    clear hP hD hPc hDc hFc hJn hP1 hD1 hk1
    have hP : va_P (dC, dI) vwCl [(ra 3, .inl (kI, 24, .inl q_kind)), (ra 7, .inl (kI, 24, .inl q_late)), (ra 8, .inl (kI, 40, .inl q_from)), (ra 9, .inl (kI, 40, .inl q_to)), (ra 10, .inl (kI, 6, .inl q_goal)), (ra 11, .inl (kI, 1019, .inl q_now)), (ra 14, .inl (kI, 12, .inl q_reach)), (m0, .inr (11, oX11 ra (upd x0 0 0))), (ra 2, .inl (kI, 8, .inl q_told))] H := hPa
    have hD : va_D A [(ra 3, .inl (kI, 24, .inl q_kind)), (ra 7, .inl (kI, 24, .inl q_late)), (ra 8, .inl (kI, 40, .inl q_from)), (ra 9, .inl (kI, 40, .inl q_to)), (ra 10, .inl (kI, 6, .inl q_goal)), (ra 11, .inl (kI, 1019, .inl q_now)), (ra 14, .inl (kI, 12, .inl q_reach)), (m0, .inr (11, oX11 ra (upd x0 0 0))), (ra 2, .inl (kI, 8, .inl q_told))] := hDa
    clear hPa hDa
    refine W.widen (k := 0) (n := 0) (Nat.le_of_ble_eq_true rfl) (Nat.le_of_ble_eq_true rfl) ?_
    refine lv_if_eq (tgt := 29) hx hb dX11_loop_17 rfl (fun c18 => ?_) (fun c18 => ?_)
    · have b19 : iv 0 0 r16 := iv_eqL c18 ivk_0
      have hPD9 := cl_s (wc := [(m0, .inr (11, oX11 ra (upd x0 0 0))), (ra 2, .inl (kI, 8, .inl q_told)), (ra 3, .inl (kI, 24, .inl q_kind)), (ra 7, .inl (kI, 24, .inl q_late)), (ra 8, .inl (kI, 40, .inl q_from)), (ra 9, .inl (kI, 40, .inl q_to)), (ra 10, .inl (kI, 6, .inl q_goal)), (ra 11, .inl (kI, 1019, .inl q_now)), (ra 14, .inl (kI, 12, .inl q_reach))]) hP hD [7, 8, 0, 1, 2, 3, 4, 5, 6] rfl (by decide +kernel)
      exact hJ29 (upd x0 0 0) _ _ _ ((fI_u hX (k := 0) ((iv_w ivk_0 (by decide) (by decide))))) (ivk_0) ((show x0 1 = x0 1 from rfl)) ((show x0 10 = x0 10 from rfl)) ((show x0 11 = x0 11 from rfl)) ((show x0 14 = x0 14 from rfl)) (hPD9.1) (hPD9.2) hS (lv_sub hl [0, 1, 2, 3] rfl)
    · have b20 : iv 1 1 r16 := iv_neLo c18 w17.1 ivk_0 (by decide) (by decide)
      have b21 : iv 0 2 p1 := (w17.2).resolve_left (iv_ne b20 ivk_0 (by decide))
      refine lv_iload_n hx hb dX11_loop_20 rfl (lv_at hl 3 rfl) ?_
      refine lv_iconst (v := 0) hx hb dX11_loop_21 ic_0 ?_
      refine lv_iconst (v := 1) hx hb dX11_loop_22 ic_1 ?_
      obtain ⟨hPc, hDc, hFc, hJn⟩ := cl_a (wc := []) (wr := [(ra 3, .inl (kI, 24, .inl q_kind)), (ra 7, .inl (kI, 24, .inl q_late)), (ra 8, .inl (kI, 40, .inl q_from)), (ra 9, .inl (kI, 40, .inl q_to)), (ra 10, .inl (kI, 6, .inl q_goal)), (ra 11, .inl (kI, 1019, .inl q_now)), (ra 14, .inl (kI, 12, .inl q_reach)), (m0, .inr (11, oX11 ra (upd x0 0 0))), (ra 2, .inl (kI, 8, .inl q_told))]) hP hD hS hA [] [0, 1, 2, 3, 4, 5, 6, 7, 8] rfl rfl (by decide +kernel)
      refine va_calli (va_runS (As := [.int p2, .int 0, .int 1]) (rest := []) ⟨hx, hb, hml, hown, hts⟩ (s11_isIn l dC dI kB kI kJ kZ kC kS H.size p2 0 1) (va_cwS 3 hts gX11_loop_X11_isIn rfl rfl rfl (by decide +kernel) ⟨Nat.le_of_ble_eq_true rfl, Nat.le_of_ble_eq_true rfl⟩) ⟨fun a U g mk q => by obtain ⟨q0, q1, qP, qE, qD⟩ := q; exact ⟨q0, q1, qP, kE_call qE, qD⟩, fun U hU hW => ⟨rfl, by rw [hU], by rw [hU]; exact hPc, kE_warm hW hE, hDc.weaken (fun _ _ _ _ => trivial)⟩⟩ rfl rfl hl.1 rfl (lv_room (Nat.le_of_ble_eq_true rfl)) dX11_loop_23 ⟨Nat.le_of_ble_eq_true rfl, Nat.le_of_ble_eq_true rfl⟩) hS (fun q _ h => hFc q h) hFc (fun r22 u t H locs ht hvm w23 hB hz1 hk1 hS => ?_)
      obtain ⟨hP1, hD1⟩ := hB
      try dsimp only at w23
      obtain ⟨hPa, hDa⟩ := hJn (w1 := []) hk1 ht hP1 hD1
      clear hP hD hPc hDc hFc hJn hP1 hD1 hk1
      have hP : va_P (dC, dI) vwCl [(ra 3, .inl (kI, 24, .inl q_kind)), (ra 7, .inl (kI, 24, .inl q_late)), (ra 8, .inl (kI, 40, .inl q_from)), (ra 9, .inl (kI, 40, .inl q_to)), (ra 10, .inl (kI, 6, .inl q_goal)), (ra 11, .inl (kI, 1019, .inl q_now)), (ra 14, .inl (kI, 12, .inl q_reach)), (m0, .inr (11, oX11 ra (upd x0 0 0))), (ra 2, .inl (kI, 8, .inl q_told))] H := hPa
      have hD : va_D A [(ra 3, .inl (kI, 24, .inl q_kind)), (ra 7, .inl (kI, 24, .inl q_late)), (ra 8, .inl (kI, 40, .inl q_from)), (ra 9, .inl (kI, 40, .inl q_to)), (ra 10, .inl (kI, 6, .inl q_goal)), (ra 11, .inl (kI, 1019, .inl q_now)), (ra 14, .inl (kI, 12, .inl q_reach)), (m0, .inr (11, oX11 ra (upd x0 0 0))), (ra 2, .inl (kI, 8, .inl q_told))] := hDa
      clear hPa hDa
      refine W.widen (k := 0) (n := 0) (Nat.le_of_ble_eq_true rfl) (Nat.le_of_ble_eq_true rfl) ?_
      refine lv_if_ne (tgt := 35) hx hb dX11_loop_26 rfl (fun c24 => ?_) (fun c24 => ?_)
      · have b25 : iv 1 1 r22 := iv_neLo c24 w23.1 ivk_0 (by decide) (by decide)
        have hr26 := (w23.2).resolve_left (iv_ne b25 ivk_0 (by decide))
        have b27 : iv 0 1 p2 := iv_cap (in_iv hr26 ivk_0 ivk_1) (iv_t p2) (by decide) (by decide)
        refine lv_aload_n hx hb dX11_loop_35 rfl (lv_at hl 0 rfl) ?_
        refine lv_iload_n hx hb dX11_loop_36 rfl (lv_at hl 1 rfl) ?_
        refine lv_iload_n hx hb dX11_loop_37 rfl (lv_at hl 2 rfl) ?_
        obtain ⟨hPc, hDc, hFc, hJn⟩ := cl_a (wc := [(m0, .inr (11, oX11 ra (upd x0 0 0))), (ra 9, .inl (kI, 40, .inl q_to)), (ra 10, .inl (kI, 6, .inl q_goal)), (ra 11, .inl (kI, 1019, .inl q_now))]) (wr := [(ra 3, .inl (kI, 24, .inl q_kind)), (ra 7, .inl (kI, 24, .inl q_late)), (ra 8, .inl (kI, 40, .inl q_from)), (ra 14, .inl (kI, 12, .inl q_reach)), (ra 2, .inl (kI, 8, .inl q_told))]) hP hD hS hA [7, 3, 4, 5] [0, 1, 2, 6, 8] rfl rfl (by decide +kernel)
        refine va_calli (va_runV (As := [.int p0, .int p1]) (rest := []) ⟨hx, hb, hml, hown, hts⟩ (s11_loopOf l dC dI kB kI kJ kZ kC kS H.size m0 ra (upd x0 0 0) q_to q_goal q_now p0 p1 ((fI_u hX (k := 0) ((iv_w ivk_0 (by decide) (by decide))))) (hq_to) (hq_goal) (hq_now) (b15) (b21)) (cwV 2 hts gX11_loop_X11_loopOf rfl rfl rfl (by decide +kernel) ⟨Nat.le_of_ble_eq_true rfl, Nat.le_of_ble_eq_true rfl⟩) ⟨fun a U g mk q => by obtain ⟨q0, q1, qP, qE, qD⟩ := q; exact ⟨q0, q1, qP, kE_call qE, qD⟩, va_recv hK hP (ci := 11) (q0 := 7) rfl rfl, fun U hU hW => ⟨rfl, by rw [hU], by rw [hU]; exact hPc, kE_warm hW hE, hDc.weaken (fun _ _ _ _ => trivial)⟩⟩ rfl rfl hl.1 rfl (lv_room (Nat.le_of_ble_eq_true rfl)) dX11_loop_38 ⟨Nat.le_of_ble_eq_true rfl, Nat.le_of_ble_eq_true rfl⟩) hS (fun q _ h => hFc q h) hFc (fun r28 u t H locs ht hvm w29 hB hz1 hk1 hS => ?_)
        obtain ⟨hP1, hD1⟩ := hB
        try dsimp only at w29
        obtain ⟨hPa, hDa⟩ := hJn (w1 := [(m0, .inr (11, oX11 ra (upd x0 0 0))), (ra 9, .inl (kI, 40, .inl q_to)), (ra 10, .inl (kI, 6, .inl q_goal)), (ra 11, .inl (kI, 1019, .inl q_now))]) hk1 ht hP1 hD1
        clear hP hD hPc hDc hFc hJn hP1 hD1 hk1
        have hP : va_P (dC, dI) vwCl [(ra 3, .inl (kI, 24, .inl q_kind)), (ra 7, .inl (kI, 24, .inl q_late)), (ra 8, .inl (kI, 40, .inl q_from)), (ra 14, .inl (kI, 12, .inl q_reach)), (ra 2, .inl (kI, 8, .inl q_told)), (m0, .inr (11, oX11 ra (upd x0 0 0))), (ra 9, .inl (kI, 40, .inl q_to)), (ra 10, .inl (kI, 6, .inl q_goal)), (ra 11, .inl (kI, 1019, .inl q_now))] H := hPa
        have hD : va_D A [(ra 3, .inl (kI, 24, .inl q_kind)), (ra 7, .inl (kI, 24, .inl q_late)), (ra 8, .inl (kI, 40, .inl q_from)), (ra 14, .inl (kI, 12, .inl q_reach)), (ra 2, .inl (kI, 8, .inl q_told)), (m0, .inr (11, oX11 ra (upd x0 0 0))), (ra 9, .inl (kI, 40, .inl q_to)), (ra 10, .inl (kI, 6, .inl q_goal)), (ra 11, .inl (kI, 1019, .inl q_now))] := hDa
        clear hPa hDa
        refine W.widen (k := 0) (n := 0) (Nat.le_of_ble_eq_true rfl) (Nat.le_of_ble_eq_true rfl) ?_
        refine lv_istore (lv' := [(4, .int r28), (0, .ref m0), (1, .int p0), (2, .int p1), (3, .int p2)]) hx hb dX11_loop_41 hl (Nat.le_of_ble_eq_true rfl) rfl (fun ls hl => ?_)
        refine lv_iload_n hx hb dX11_loop_43 rfl (lv_at hl 4 rfl) ?_
        refine lv_if_ne (tgt := 52) hx hb dX11_loop_44 rfl (fun c30 => ?_) (fun c30 => ?_)
        · have b31 : iv 1 1 p2 := iv_neLo c30 b27 ivk_0 (by decide) (by decide)
          refine lv_iload hx hb dX11_loop_52 (lv_at hl 0 rfl) ?_
          refine lv_iconst (v := (-1)) hx hb dX11_loop_54 ic_m1 ?_
          refine lv_icmp_ne (tgt := 62) hx hb dX11_loop_55 rfl (fun c32 => ?_) (fun c32 => ?_)
          · have b33 : iv 0 9 r28 := iv_neLo c32 w29.1 ivk_m1 (by decide) (by decide)
            have b34 : iv 1 9 r28 := ((w29.2).resolve_left (iv_ne b33 ivk_m1 (by decide))).1
            have b35 : iv 0 20 (q_now ((59 + (10 * ((3 * p0) + p1)) + r28) - 1).toNatClampNeg - 1) := ((w29.2).resolve_left (iv_ne b34 ivk_m1 (by decide))).2
            refine lv_aload_n hx hb dX11_loop_62 rfl (lv_at hl 1 rfl) ?_
            refine lv_aload_n hx hb dX11_loop_63 rfl (lv_at hl 1 rfl) ?_
            refine lv_aload_n hx hb dX11_loop_64 rfl (lv_at hl 1 rfl) ?_
            refine lv_iload_n hx hb dX11_loop_65 rfl (lv_at hl 2 rfl) ?_
            refine lv_iload_n hx hb dX11_loop_66 rfl (lv_at hl 3 rfl) ?_
            refine lv_iload hx hb dX11_loop_67 (lv_at hl 0 rfl) ?_
            obtain ⟨hPc, hDc, hFc, hJn⟩ := cl_a (wc := [(m0, .inr (11, oX11 ra (upd x0 0 0))), (ra 11, .inl (kI, 1019, .inl q_now))]) (wr := [(ra 3, .inl (kI, 24, .inl q_kind)), (ra 7, .inl (kI, 24, .inl q_late)), (ra 8, .inl (kI, 40, .inl q_from)), (ra 14, .inl (kI, 12, .inl q_reach)), (ra 2, .inl (kI, 8, .inl q_told)), (ra 9, .inl (kI, 40, .inl q_to)), (ra 10, .inl (kI, 6, .inl q_goal))]) hP hD hS hA [5, 8] [0, 1, 2, 3, 4, 6, 7] rfl rfl (by decide +kernel)
            refine va_calli (va_runV (As := [.int p0, .int p1, .int r28]) (rest := [.ref m0, .ref m0]) ⟨hx, hb, hml, hown, hts⟩ (s11_seenBy l dC dI kB kI kJ kZ kC kS H.size m0 ra (upd x0 0 0) q_now p0 p1 r28 ((fI_u hX (k := 0) ((iv_w ivk_0 (by decide) (by decide))))) (hq_now) (b15) (b21) ((iv_w b34 (by decide) (by decide)))) (cwV 3 hts gX11_loop_X11_seenBy rfl rfl rfl (by decide +kernel) ⟨Nat.le_of_ble_eq_true rfl, Nat.le_of_ble_eq_true rfl⟩) ⟨fun a U g mk q => by obtain ⟨q0, q1, qP, qE, qD⟩ := q; exact ⟨q0, q1, qP, kE_call qE, qD⟩, va_recv hK hP (ci := 11) (q0 := 5) rfl rfl, fun U hU hW => ⟨rfl, by rw [hU], by rw [hU]; exact hPc, kE_warm hW hE, hDc.weaken (fun _ _ _ _ => trivial)⟩⟩ rfl rfl hl.1 rfl (lv_room (Nat.le_of_ble_eq_true rfl)) dX11_loop_69 ⟨Nat.le_of_ble_eq_true rfl, Nat.le_of_ble_eq_true rfl⟩) hS (fun q _ h => hFc q h) hFc (fun r36 u t H locs ht hvm w37 hB hz1 hk1 hS => ?_)
            obtain ⟨hP1, hD1⟩ := hB
            try dsimp only at w37
            obtain ⟨hPa, hDa⟩ := hJn (w1 := [(m0, .inr (11, oX11 ra (upd x0 0 0))), (ra 11, .inl (kI, 1019, .inl q_now))]) hk1 ht hP1 hD1
            clear hP hD hPc hDc hFc hJn hP1 hD1 hk1
            have hP : va_P (dC, dI) vwCl [(ra 3, .inl (kI, 24, .inl q_kind)), (ra 7, .inl (kI, 24, .inl q_late)), (ra 8, .inl (kI, 40, .inl q_from)), (ra 14, .inl (kI, 12, .inl q_reach)), (ra 2, .inl (kI, 8, .inl q_told)), (ra 9, .inl (kI, 40, .inl q_to)), (ra 10, .inl (kI, 6, .inl q_goal)), (m0, .inr (11, oX11 ra (upd x0 0 0))), (ra 11, .inl (kI, 1019, .inl q_now))] H := hPa
            have hD : va_D A [(ra 3, .inl (kI, 24, .inl q_kind)), (ra 7, .inl (kI, 24, .inl q_late)), (ra 8, .inl (kI, 40, .inl q_from)), (ra 14, .inl (kI, 12, .inl q_reach)), (ra 2, .inl (kI, 8, .inl q_told)), (ra 9, .inl (kI, 40, .inl q_to)), (ra 10, .inl (kI, 6, .inl q_goal)), (m0, .inr (11, oX11 ra (upd x0 0 0))), (ra 11, .inl (kI, 1019, .inl q_now))] := hDa
            clear hPa hDa
            refine W.widen (k := 0) (n := 0) (Nat.le_of_ble_eq_true rfl) (Nat.le_of_ble_eq_true rfl) ?_
            obtain ⟨w37, b38⟩ := w37
            subst w37
            obtain ⟨hPc, hDc, hFc, hJn⟩ := cl_a (wc := [(m0, .inr (11, oX11 ra (upd x0 0 0))), (ra 9, .inl (kI, 40, .inl q_to))]) (wr := [(ra 3, .inl (kI, 24, .inl q_kind)), (ra 7, .inl (kI, 24, .inl q_late)), (ra 8, .inl (kI, 40, .inl q_from)), (ra 14, .inl (kI, 12, .inl q_reach)), (ra 2, .inl (kI, 8, .inl q_told)), (ra 10, .inl (kI, 6, .inl q_goal)), (ra 11, .inl (kI, 1019, .inl q_now))]) hP hD hS hA [7, 5] [0, 1, 2, 3, 4, 6, 8] rfl rfl (by decide +kernel)
            refine va_calli (va_runV (As := [.int (q_now ((59 + (10 * ((3 * p0) + p1)) + r28) - 1).toNatClampNeg - 1)]) (rest := [.ref m0]) ⟨hx, hb, hml, hown, hts⟩ (s11_routerOf l dC dI kB kI kJ kZ kC kS H.size m0 ra (upd x0 0 0) q_to (q_now ((59 + (10 * ((3 * p0) + p1)) + r28) - 1).toNatClampNeg - 1) ((fI_u hX (k := 0) ((iv_w ivk_0 (by decide) (by decide))))) (hq_to) ((iv_w b35 (by decide) (by decide)))) (cwV 1 hts gX11_loop_X11_routerOf rfl rfl rfl (by decide +kernel) ⟨Nat.le_of_ble_eq_true rfl, Nat.le_of_ble_eq_true rfl⟩) ⟨fun a U g mk q => by obtain ⟨q0, q1, qP, qE, qD⟩ := q; exact ⟨q0, q1, qP, kE_call qE, qD⟩, va_recv hK hP (ci := 11) (q0 := 7) rfl rfl, fun U hU hW => ⟨rfl, by rw [hU], by rw [hU]; exact hPc, kE_warm hW hE, hDc.weaken (fun _ _ _ _ => trivial)⟩⟩ rfl rfl hl.1 rfl (lv_room (Nat.le_of_ble_eq_true rfl)) dX11_loop_72 ⟨Nat.le_of_ble_eq_true rfl, Nat.le_of_ble_eq_true rfl⟩) hS (fun q _ h => hFc q h) hFc (fun r39 u t H locs ht hvm w40 hB hz1 hk1 hS => ?_)
            obtain ⟨hP1, hD1⟩ := hB
            try dsimp only at w40
            obtain ⟨hPa, hDa⟩ := hJn (w1 := [(m0, .inr (11, oX11 ra (upd x0 0 0))), (ra 9, .inl (kI, 40, .inl q_to))]) hk1 ht hP1 hD1
            clear hP hD hPc hDc hFc hJn hP1 hD1 hk1
            have hP : va_P (dC, dI) vwCl [(ra 3, .inl (kI, 24, .inl q_kind)), (ra 7, .inl (kI, 24, .inl q_late)), (ra 8, .inl (kI, 40, .inl q_from)), (ra 14, .inl (kI, 12, .inl q_reach)), (ra 2, .inl (kI, 8, .inl q_told)), (ra 10, .inl (kI, 6, .inl q_goal)), (ra 11, .inl (kI, 1019, .inl q_now)), (m0, .inr (11, oX11 ra (upd x0 0 0))), (ra 9, .inl (kI, 40, .inl q_to))] H := hPa
            have hD : va_D A [(ra 3, .inl (kI, 24, .inl q_kind)), (ra 7, .inl (kI, 24, .inl q_late)), (ra 8, .inl (kI, 40, .inl q_from)), (ra 14, .inl (kI, 12, .inl q_reach)), (ra 2, .inl (kI, 8, .inl q_told)), (ra 10, .inl (kI, 6, .inl q_goal)), (ra 11, .inl (kI, 1019, .inl q_now)), (m0, .inr (11, oX11 ra (upd x0 0 0))), (ra 9, .inl (kI, 40, .inl q_to))] := hDa
            clear hPa hDa
            refine W.widen (k := 0) (n := 0) (Nat.le_of_ble_eq_true rfl) (Nat.le_of_ble_eq_true rfl) ?_
            obtain ⟨hPc, hDc, hFc, hJn⟩ := cl_a (wc := [(m0, .inr (11, oX11 ra (upd x0 0 0))), (ra 2, .inl (kI, 8, .inl q_told)), (ra 3, .inl (kI, 24, .inl q_kind)), (ra 7, .inl (kI, 24, .inl q_late)), (ra 8, .inl (kI, 40, .inl q_from)), (ra 9, .inl (kI, 40, .inl q_to)), (ra 14, .inl (kI, 12, .inl q_reach))]) (wr := [(ra 10, .inl (kI, 6, .inl q_goal)), (ra 11, .inl (kI, 1019, .inl q_now))]) hP hD hS hA [7, 4, 0, 1, 2, 8, 3] [5, 6] rfl rfl (by decide +kernel)
            refine va_calli (va_runV (As := [.int r39]) (rest := []) ⟨hx, hb, hml, hown, hts⟩ (s11_whyOf l dC dI kB kI kJ kZ kC kS H.size m0 ra (upd x0 0 0) q_told q_kind q_late q_from q_to q_reach r39 ((fI_u hX (k := 0) ((iv_w ivk_0 (by decide) (by decide))))) (hq_told) (hq_from) (hq_to) (w40)) (cwV 1 hts gX11_loop_X11_whyOf rfl rfl rfl (by decide +kernel) ⟨Nat.le_of_ble_eq_true rfl, Nat.le_of_ble_eq_true rfl⟩) ⟨fun a U g mk q => by obtain ⟨q0, q1, qP, qE, qD⟩ := q; exact ⟨q0, q1, qP, kE_call qE, qD⟩, va_recv hK hP (ci := 11) (q0 := 7) rfl rfl, fun U hU hW => ⟨rfl, by rw [hU], by rw [hU]; exact hPc, kE_warm hW hE, hDc.weaken (fun _ _ _ _ => trivial)⟩⟩ rfl rfl hl.1 rfl (lv_room (Nat.le_of_ble_eq_true rfl)) dX11_loop_75 ⟨Nat.le_of_ble_eq_true rfl, Nat.le_of_ble_eq_true rfl⟩) hS (fun q _ h => hFc q h) hFc (fun r41 u t H locs ht hvm w42 hB hz1 hk1 hS => ?_)
            obtain ⟨hP1, hD1⟩ := hB
            try dsimp only at w42
            obtain ⟨hPa, hDa⟩ := hJn (w1 := [(m0, .inr (11, oX11 ra (upd x0 0 0))), (ra 2, .inl (kI, 8, .inl q_told)), (ra 3, .inl (kI, 24, .inl q_kind)), (ra 7, .inl (kI, 24, .inl q_late)), (ra 8, .inl (kI, 40, .inl q_from)), (ra 9, .inl (kI, 40, .inl q_to)), (ra 14, .inl (kI, 12, .inl q_reach))]) hk1 ht hP1 hD1
            clear hP hD hPc hDc hFc hJn hP1 hD1 hk1
            have hP : va_P (dC, dI) vwCl [(ra 10, .inl (kI, 6, .inl q_goal)), (ra 11, .inl (kI, 1019, .inl q_now)), (m0, .inr (11, oX11 ra (upd x0 0 0))), (ra 2, .inl (kI, 8, .inl q_told)), (ra 3, .inl (kI, 24, .inl q_kind)), (ra 7, .inl (kI, 24, .inl q_late)), (ra 8, .inl (kI, 40, .inl q_from)), (ra 9, .inl (kI, 40, .inl q_to)), (ra 14, .inl (kI, 12, .inl q_reach))] H := hPa
            have hD : va_D A [(ra 10, .inl (kI, 6, .inl q_goal)), (ra 11, .inl (kI, 1019, .inl q_now)), (m0, .inr (11, oX11 ra (upd x0 0 0))), (ra 2, .inl (kI, 8, .inl q_told)), (ra 3, .inl (kI, 24, .inl q_kind)), (ra 7, .inl (kI, 24, .inl q_late)), (ra 8, .inl (kI, 40, .inl q_from)), (ra 9, .inl (kI, 40, .inl q_to)), (ra 14, .inl (kI, 12, .inl q_reach))] := hDa
            clear hPa hDa
            refine W.widen (k := 0) (n := 0) (Nat.le_of_ble_eq_true rfl) (Nat.le_of_ble_eq_true rfl) ?_
            have hPD9 := cl_s (wc := [(m0, .inr (11, oX11 ra (upd x0 0 0))), (ra 2, .inl (kI, 8, .inl q_told)), (ra 3, .inl (kI, 24, .inl q_kind)), (ra 7, .inl (kI, 24, .inl q_late)), (ra 8, .inl (kI, 40, .inl q_from)), (ra 9, .inl (kI, 40, .inl q_to)), (ra 10, .inl (kI, 6, .inl q_goal)), (ra 11, .inl (kI, 1019, .inl q_now)), (ra 14, .inl (kI, 12, .inl q_reach))]) hP hD [2, 3, 4, 5, 6, 7, 0, 1, 8] rfl (by decide +kernel)
            have hP9 := hPD9.1
            have hD9 := hPD9.2
            exact W.iret (v := r41) hx hb hr (fun t ht hW => ⟨⟨r41, (), rfl, (iv_w w42 (by decide) (by decide)), upd x0 0 0, (fI_u hX (k := 0) ((iv_w ivk_0 (by decide) (by decide)))), (show x0 1 = x0 1 from rfl), (show x0 10 = x0 10 from rfl), (show x0 11 = x0 11 from rfl), (show x0 14 = x0 14 from rfl), by rw [ht]; exact hP9, hD9⟩, hS.F ht⟩) hS.2.2 dX11_loop_78
          · have b43 : iv (-1) (-1) r28 := iv_eqL c32 ivk_m1
            refine lv_iconst (v := 0) hx hb dX11_loop_58 ic_0 ?_
            refine lv_goto (tgt := 78) hx hb dX11_loop_59 rfl ?_
            have hPD9 := cl_s (wc := [(m0, .inr (11, oX11 ra (upd x0 0 0))), (ra 2, .inl (kI, 8, .inl q_told)), (ra 3, .inl (kI, 24, .inl q_kind)), (ra 7, .inl (kI, 24, .inl q_late)), (ra 8, .inl (kI, 40, .inl q_from)), (ra 9, .inl (kI, 40, .inl q_to)), (ra 10, .inl (kI, 6, .inl q_goal)), (ra 11, .inl (kI, 1019, .inl q_now)), (ra 14, .inl (kI, 12, .inl q_reach))]) hP hD [5, 4, 0, 1, 2, 6, 7, 8, 3] rfl (by decide +kernel)
            have hP9 := hPD9.1
            have hD9 := hPD9.2
            exact W.iret (v := 0) hx hb hr (fun t ht hW => ⟨⟨0, (), rfl, (iv_w ivk_0 (by decide) (by decide)), upd x0 0 0, (fI_u hX (k := 0) ((iv_w ivk_0 (by decide) (by decide)))), (show x0 1 = x0 1 from rfl), (show x0 10 = x0 10 from rfl), (show x0 11 = x0 11 from rfl), (show x0 14 = x0 14 from rfl), by rw [ht]; exact hP9, hD9⟩, hS.F ht⟩) hS.2.2 dX11_loop_78
        · have b44 : iv 0 0 p2 := iv_eqL c30 ivk_0
          refine lv_iload hx hb dX11_loop_47 (lv_at hl 0 rfl) ?_
          refine lv_goto (tgt := 78) hx hb dX11_loop_49 rfl ?_
          have hPD9 := cl_s (wc := [(m0, .inr (11, oX11 ra (upd x0 0 0))), (ra 2, .inl (kI, 8, .inl q_told)), (ra 3, .inl (kI, 24, .inl q_kind)), (ra 7, .inl (kI, 24, .inl q_late)), (ra 8, .inl (kI, 40, .inl q_from)), (ra 9, .inl (kI, 40, .inl q_to)), (ra 10, .inl (kI, 6, .inl q_goal)), (ra 11, .inl (kI, 1019, .inl q_now)), (ra 14, .inl (kI, 12, .inl q_reach))]) hP hD [5, 4, 0, 1, 2, 6, 7, 8, 3] rfl (by decide +kernel)
          have hP9 := hPD9.1
          have hD9 := hPD9.2
          exact W.iret (v := r28) hx hb hr (fun t ht hW => ⟨⟨r28, (), rfl, w29.1, upd x0 0 0, (fI_u hX (k := 0) ((iv_w ivk_0 (by decide) (by decide)))), (show x0 1 = x0 1 from rfl), (show x0 10 = x0 10 from rfl), (show x0 11 = x0 11 from rfl), (show x0 14 = x0 14 from rfl), by rw [ht]; exact hP9, hD9⟩, hS.F ht⟩) hS.2.2 dX11_loop_78
      · have b45 : iv 0 0 r22 := iv_eqL c24 ivk_0
        have hPD9 := cl_s (wc := [(m0, .inr (11, oX11 ra (upd x0 0 0))), (ra 2, .inl (kI, 8, .inl q_told)), (ra 3, .inl (kI, 24, .inl q_kind)), (ra 7, .inl (kI, 24, .inl q_late)), (ra 8, .inl (kI, 40, .inl q_from)), (ra 9, .inl (kI, 40, .inl q_to)), (ra 10, .inl (kI, 6, .inl q_goal)), (ra 11, .inl (kI, 1019, .inl q_now)), (ra 14, .inl (kI, 12, .inl q_reach))]) hP hD [7, 8, 0, 1, 2, 3, 4, 5, 6] rfl (by decide +kernel)
        exact hJ29 (upd x0 0 0) _ _ _ ((fI_u hX (k := 0) ((iv_w ivk_0 (by decide) (by decide))))) (ivk_0) ((show x0 1 = x0 1 from rfl)) ((show x0 10 = x0 10 from rfl)) ((show x0 11 = x0 11 from rfl)) ((show x0 14 = x0 14 from rfl)) (hPD9.1) (hPD9.2) hS (lv_sub hl [0, 1, 2, 3] rfl)
def rm_s11_truth : Room := { frames := 4, cells := 0, slots := 0, locals := 93 }
set_option maxHeartbeats 4000000 in
set_option maxRecDepth 100000 in
theorem s11_truth (l : Launch) (dC : Nat → ClassId) (dI : Nat → Nat → Nat) (kB kI kJ kZ kC kS : ClassId) (sz : Nat) (m0 : Nat) (ra : Nat → Nat) (x0 : Nat → Int32) (q_told : Nat → Int32) (q_from : Nat → Int32) (q_to : Nat → Int32) (q_goal : Nat → Int32) (q_now : Nat → Int32) (q_reach : Nat → Int32) (q_isAt : Nat → Int32) (q_waysTo : Nat → Int32) (p0 : Int32) (p1 : Int32) (hX : fI lX11 hX11 x0) (hq_told : fI lTold hTold q_told) (hq_from : fI (fun _ => 0) (fun _ => 11) q_from) (hq_to : fI (fun _ => 0) (fun _ => 11) q_to) (hq_goal : fI (fun _ => 0) (fun _ => 11) q_goal) (hq_now : fI lNow hNow q_now) : Met l yX11_truth wsX11_truth rm_s11_truth (va_Pc [.ref m0, .int p0, .int p1] (fun U => U.heap.size = sz ∧ va_P (dC, dI) vwCl [(m0, .inr (11, oX11 ra x0)), (ra 2, .inl (kI, 8, .inl q_told)), (ra 8, .inl (kI, 40, .inl q_from)), (ra 9, .inl (kI, 40, .inl q_to)), (ra 10, .inl (kI, 6, .inl q_goal)), (ra 11, .inl (kI, 1019, .inl q_now)), (ra 14, .inl (kI, 12, .inl q_reach)), (ra 17, .inl (kZ, 168, .inl q_isAt)), (ra 18, .inl (kI, 12, .inl q_waysTo))] U.heap ∧ kE dC dI kB kI kJ kZ kC kS U ∧ va_D (fun _ => True) [(m0, .inr (11, oX11 ra x0)), (ra 2, .inl (kI, 8, .inl q_told)), (ra 8, .inl (kI, 40, .inl q_from)), (ra 9, .inl (kI, 40, .inl q_to)), (ra 10, .inl (kI, 6, .inl q_goal)), (ra 11, .inl (kI, 1019, .inl q_now)), (ra 14, .inl (kI, 12, .inl q_reach)), (ra 17, .inl (kZ, 168, .inl q_isAt)), (ra 18, .inl (kI, 12, .inl q_waysTo))])) (va_Qi (fun (r : Int32) (_ : Unit) => True) (fun _ t => ∃ (x0' : Nat → Int32) (q_isAt' : Nat → Int32) (q_waysTo' : Nat → Int32), fI lX11 hX11 x0' ∧ (x0' 1 = x0 1) ∧ (x0' 10 = x0 10) ∧ (x0' 11 = x0 11) ∧ (x0' 14 = x0 14) ∧ va_P (dC, dI) vwCl [(m0, .inr (11, oX11 ra x0')), (ra 2, .inl (kI, 8, .inl q_told)), (ra 8, .inl (kI, 40, .inl q_from)), (ra 9, .inl (kI, 40, .inl q_to)), (ra 10, .inl (kI, 6, .inl q_goal)), (ra 11, .inl (kI, 1019, .inl q_now)), (ra 14, .inl (kI, 12, .inl q_reach)), (ra 17, .inl (kZ, 168, .inl q_isAt')), (ra 18, .inl (kI, 12, .inl q_waysTo'))] t.heap ∧ va_D (va_A [(m0, .inr (11, oX11 ra x0)), (ra 2, .inl (kI, 8, .inl q_told)), (ra 8, .inl (kI, 40, .inl q_from)), (ra 9, .inl (kI, 40, .inl q_to)), (ra 10, .inl (kI, 6, .inl q_goal)), (ra 11, .inl (kI, 1019, .inl q_now)), (ra 14, .inl (kI, 12, .inl q_reach)), (ra 17, .inl (kZ, 168, .inl q_isAt)), (ra 18, .inl (kI, 12, .inl q_waysTo))] sz) [(m0, .inr (11, oX11 ra x0')), (ra 2, .inl (kI, 8, .inl q_told)), (ra 8, .inl (kI, 40, .inl q_from)), (ra 9, .inl (kI, 40, .inl q_to)), (ra 10, .inl (kI, 6, .inl q_goal)), (ra 11, .inl (kI, 1019, .inl q_now)), (ra 14, .inl (kI, 12, .inl q_reach)), (ra 17, .inl (kZ, 168, .inl q_isAt')), (ra 18, .inl (kI, 12, .inl q_waysTo'))]) (va_A [(m0, .inr (11, oX11 ra x0)), (ra 2, .inl (kI, 8, .inl q_told)), (ra 8, .inl (kI, 40, .inl q_from)), (ra 9, .inl (kI, 40, .inl q_to)), (ra 10, .inl (kI, 6, .inl q_goal)), (ra 11, .inl (kI, 1019, .inl q_now)), (ra 14, .inl (kI, 12, .inl q_reach)), (ra 17, .inl (kZ, 168, .inl q_isAt)), (ra 18, .inl (kI, 12, .inl q_waysTo))] sz)) 0 0 (va_A [(m0, .inr (11, oX11 ra x0)), (ra 2, .inl (kI, 8, .inl q_told)), (ra 8, .inl (kI, 40, .inl q_from)), (ra 9, .inl (kI, 40, .inl q_to)), (ra 10, .inl (kI, 6, .inl q_goal)), (ra 11, .inl (kI, 1019, .inl q_now)), (ra 14, .inl (kI, 12, .inl q_reach)), (ra 17, .inl (kZ, 168, .inl q_isAt)), (ra 18, .inl (kI, 12, .inl q_waysTo))] sz) := by
  refine Met.ofW (cc := cX11_truth) (maxL := 5) (ret := (some .int)) (by decide) rfl ?_
  intro p e s m args0 below meth c s₁ B hml hv
  obtain ⟨hargs, hsz, hP, hE, hD0⟩ := hv
  have hx := B.exec
  have hb := B.bytes
  have hr := B.returns
  have hts := atoms_spec (ws := wsX11_truth) B.pre
  have hown : s.vm.findClass RX11 = some m.cls := findClass_of_methodNamed B.named
  have hlocks := B.notSynchronized
  have hK := hE.1
  have hin11 : ∀ w ∈ wsX110, w ∈ wsX11_truth := fun _ h9 => List.mem_cons_of_mem _ (List.mem_append_right _ h9)
  have hw_0 := hts (.fieldLink RX11 142 "PathProberModel" "code" "I") (List.mem_of_getElem? (i := 1) rfl)
  subst hsz
  have hD := hD0.self (sz := s.heap.size)
  generalize hAe : va_A [(m0, .inr (11, oX11 ra x0)), (ra 2, .inl (kI, 8, .inl q_told)), (ra 8, .inl (kI, 40, .inl q_from)), (ra 9, .inl (kI, 40, .inl q_to)), (ra 10, .inl (kI, 6, .inl q_goal)), (ra 11, .inl (kI, 1019, .inl q_now)), (ra 14, .inl (kI, 12, .inl q_reach)), (ra 17, .inl (kZ, 168, .inl q_isAt)), (ra 18, .inl (kI, 12, .inl q_waysTo))] s.heap.size = A at hD ⊢
  have hA : ∀ q : Nat, s.heap.size ≤ q → A q := fun q h => by rw [← hAe]; exact Or.inr h
  have hS : va_S A s.heap s.heap [] := va_S.rf
  have hP : va_P (dC, dI) vwCl [(m0, .inr (11, oX11 ra x0)), (ra 2, .inl (kI, 8, .inl q_told)), (ra 8, .inl (kI, 40, .inl q_from)), (ra 9, .inl (kI, 40, .inl q_to)), (ra 10, .inl (kI, 6, .inl q_goal)), (ra 11, .inl (kI, 1019, .inl q_now)), (ra 14, .inl (kI, 12, .inl q_reach)), (ra 17, .inl (kZ, 168, .inl q_isAt)), (ra 18, .inl (kI, 12, .inl q_waysTo))] s.heap := hP
  have hl := lv_entry ([.ref m0, .int p0, .int p1]) (n := 5) (Nat.le_of_ble_eq_true rfl)
  have hla : entryFrame m args0 5 = entryFrame m ([.ref m0, .int p0, .int p1] : List Value).toArray 5 := by rw [hargs]
  rw [hla, lg_entry_eq]
  generalize (lg_sl ([.ref m0, .int p0, .int p1]) ++ List.replicate (5 - (lg_sl ([.ref m0, .int p0, .int p1])).length) Slot.unset).toArray = ls at hl ⊢
  have hl : lv_has ls 5 [(0, .ref m0), (1, .int p0), (2, .int p1)] := hl
  have hJ22 : ∀ (y22_0 : Nat → Int32) (H : Heap) (locs : List Loc) (ls : Array Slot), fI lX11 hX11 y22_0 → iv 0 0 (y22_0 0) → (y22_0 1 = x0 1) → (y22_0 10 = x0 10) → (y22_0 11 = x0 11) → (y22_0 14 = x0 14) → va_P (dC, dI) vwCl [(m0, .inr (11, oX11 ra y22_0)), (ra 2, .inl (kI, 8, .inl q_told)), (ra 8, .inl (kI, 40, .inl q_from)), (ra 9, .inl (kI, 40, .inl q_to)), (ra 10, .inl (kI, 6, .inl q_goal)), (ra 11, .inl (kI, 1019, .inl q_now)), (ra 14, .inl (kI, 12, .inl q_reach)), (ra 17, .inl (kZ, 168, .inl q_isAt)), (ra 18, .inl (kI, 12, .inl q_waysTo))] H → va_D A [(m0, .inr (11, oX11 ra y22_0)), (ra 2, .inl (kI, 8, .inl q_told)), (ra 8, .inl (kI, 40, .inl q_from)), (ra 9, .inl (kI, 40, .inl q_to)), (ra 10, .inl (kI, 6, .inl q_goal)), (ra 11, .inl (kI, 1019, .inl q_now)), (ra 14, .inl (kI, 12, .inl q_reach)), (ra 17, .inl (kZ, 168, .inl q_isAt)), (ra 18, .inl (kI, 12, .inl q_waysTo))] → va_S A s.heap H locs → lv_has ls 5 [(0, .ref m0), (1, .int p0), (2, .int p1)] → W p l e (headSpec wsX11_truth rm_s11_truth).room s m args0 below meth c H locs (0) (0) (MQ below (va_Qi (fun (r : Int32) (_ : Unit) => True) (fun _ t => ∃ (x0' : Nat → Int32) (q_isAt' : Nat → Int32) (q_waysTo' : Nat → Int32), fI lX11 hX11 x0' ∧ (x0' 1 = x0 1) ∧ (x0' 10 = x0 10) ∧ (x0' 11 = x0 11) ∧ (x0' 14 = x0 14) ∧ va_P (dC, dI) vwCl [(m0, .inr (11, oX11 ra x0')), (ra 2, .inl (kI, 8, .inl q_told)), (ra 8, .inl (kI, 40, .inl q_from)), (ra 9, .inl (kI, 40, .inl q_to)), (ra 10, .inl (kI, 6, .inl q_goal)), (ra 11, .inl (kI, 1019, .inl q_now)), (ra 14, .inl (kI, 12, .inl q_reach)), (ra 17, .inl (kZ, 168, .inl q_isAt')), (ra 18, .inl (kI, 12, .inl q_waysTo'))] t.heap ∧ va_D A [(m0, .inr (11, oX11 ra x0')), (ra 2, .inl (kI, 8, .inl q_told)), (ra 8, .inl (kI, 40, .inl q_from)), (ra 9, .inl (kI, 40, .inl q_to)), (ra 10, .inl (kI, 6, .inl q_goal)), (ra 11, .inl (kI, 1019, .inl q_now)), (ra 14, .inl (kI, 12, .inl q_reach)), (ra 17, .inl (kZ, 168, .inl q_isAt')), (ra 18, .inl (kI, 12, .inl q_waysTo'))]) A) args0 s 0 0 A) (F0 m 22 ls []) := by
    intro y22_0 H locs ls hI22_0 h22_2 htp_22 hfp_22 hor_22 hirl_22 hP hD hS hl
    refine lv_aload_n hx hb dX11_truth_22 rfl (lv_at hl 0 rfl) ?_
    refine lv_iconst (v := 1) hx hb dX11_truth_23 ic_1 ?_
    obtain ⟨hPc, hDc, hFc, hJn⟩ := cl_a (wc := [(m0, .inr (11, oX11 ra y22_0))]) (wr := [(ra 2, .inl (kI, 8, .inl q_told)), (ra 8, .inl (kI, 40, .inl q_from)), (ra 9, .inl (kI, 40, .inl q_to)), (ra 10, .inl (kI, 6, .inl q_goal)), (ra 11, .inl (kI, 1019, .inl q_now)), (ra 14, .inl (kI, 12, .inl q_reach)), (ra 17, .inl (kZ, 168, .inl q_isAt)), (ra 18, .inl (kI, 12, .inl q_waysTo))]) hP hD hS hA [0] [1, 2, 3, 4, 5, 6, 7, 8] rfl rfl (by decide +kernel)
    refine va_calli (va_runV (As := [.int 1]) (rest := []) ⟨hx, hb, hml, hown, hts⟩ (s11_fail l dC dI kB kI kJ kZ kC kS H.size m0 ra y22_0 1 (hI22_0)) (cwV 1 hts gX11_truth_X11_fail rfl rfl rfl (by decide +kernel) ⟨Nat.le_of_ble_eq_true rfl, Nat.le_of_ble_eq_true rfl⟩) ⟨fun a U g mk q => by obtain ⟨q0, q1, qP, qE, qD⟩ := q; exact ⟨q0, q1, qP, kE_call qE, qD⟩, va_recv hK hP (ci := 11) (q0 := 0) rfl rfl, fun U hU hW => ⟨rfl, by rw [hU], by rw [hU]; exact hPc, kE_warm hW hE, hDc.weaken (fun _ _ _ _ => trivial)⟩⟩ rfl rfl hl.1 rfl (lv_room (Nat.le_of_ble_eq_true rfl)) dX11_truth_24 ⟨Nat.le_of_ble_eq_true rfl, Nat.le_of_ble_eq_true rfl⟩) hS (fun q _ h => hFc q h) hFc (fun r1 u t H locs ht hvm w2 hB hz1 hk1 hS => ?_)
    obtain ⟨y3, hq4, hq5, hq6, hq7, hq8, hq9, hP1, hD1⟩ := hB
    try dsimp only at w2
    obtain ⟨hPa, hDa⟩ := hJn (w1 := [(m0, .inr (11, oX11 ra y3))]) hk1 ht hP1 hD1
    clear hP hD hPc hDc hFc hJn hP1 hD1 hk1
    have hP : va_P (dC, dI) vwCl [(ra 2, .inl (kI, 8, .inl q_told)), (ra 8, .inl (kI, 40, .inl q_from)), (ra 9, .inl (kI, 40, .inl q_to)), (ra 10, .inl (kI, 6, .inl q_goal)), (ra 11, .inl (kI, 1019, .inl q_now)), (ra 14, .inl (kI, 12, .inl q_reach)), (ra 17, .inl (kZ, 168, .inl q_isAt)), (ra 18, .inl (kI, 12, .inl q_waysTo)), (m0, .inr (11, oX11 ra y3))] H := hPa
    have hD : va_D A [(ra 2, .inl (kI, 8, .inl q_told)), (ra 8, .inl (kI, 40, .inl q_from)), (ra 9, .inl (kI, 40, .inl q_to)), (ra 10, .inl (kI, 6, .inl q_goal)), (ra 11, .inl (kI, 1019, .inl q_now)), (ra 14, .inl (kI, 12, .inl q_reach)), (ra 17, .inl (kZ, 168, .inl q_isAt)), (ra 18, .inl (kI, 12, .inl q_waysTo)), (m0, .inr (11, oX11 ra y3))] := hDa
    clear hPa hDa
    refine W.widen (k := 0) (n := 0) (Nat.le_of_ble_eq_true rfl) (Nat.le_of_ble_eq_true rfl) ?_
    obtain rfl : r1 = 0 := iv_one w2 (by decide)
    have hPD9 := cl_s (wc := [(m0, .inr (11, oX11 ra y3)), (ra 2, .inl (kI, 8, .inl q_told)), (ra 8, .inl (kI, 40, .inl q_from)), (ra 9, .inl (kI, 40, .inl q_to)), (ra 10, .inl (kI, 6, .inl q_goal)), (ra 11, .inl (kI, 1019, .inl q_now)), (ra 14, .inl (kI, 12, .inl q_reach)), (ra 17, .inl (kZ, 168, .inl q_isAt)), (ra 18, .inl (kI, 12, .inl q_waysTo))]) hP hD [8, 0, 1, 2, 3, 4, 5, 6, 7] rfl (by decide +kernel)
    have hP9 := hPD9.1
    have hD9 := hPD9.2
    exact W.iret (v := 0) hx hb hr (fun t ht hW => ⟨⟨0, (), rfl, trivial, y3, q_isAt, q_waysTo, hq4, (show y3 1 = x0 1 from hq6.trans (htp_22)), (show y3 10 = x0 10 from hq7.trans (hfp_22)), (show y3 11 = x0 11 from hq8.trans (hor_22)), (show y3 14 = x0 14 from hq9.trans (hirl_22)), by rw [ht]; exact hP9, hD9⟩, hS.F ht⟩) hS.2.2 dX11_truth_27
  have hJ64 : ∀ (n : Nat) (y64_0 : Nat → Int32) (g64_7 : Nat → Int32) (v64_loc3 : Int32) (v64_loc4 : Int32) (H : Heap) (locs : List Loc) (ls : Array Slot), (11 - v64_loc4.toInt).toNat < n → fI lX11 hX11 y64_0 → iv 0 2 p0 → iv 3 3 p1 → iv 1 11 v64_loc4 → iv 0 0 (y64_0 0) → (y64_0 1 = x0 1) → (y64_0 10 = x0 10) → (y64_0 11 = x0 11) → (y64_0 14 = x0 14) → va_P (dC, dI) vwCl [(m0, .inr (11, oX11 ra y64_0)), (ra 2, .inl (kI, 8, .inl q_told)), (ra 8, .inl (kI, 40, .inl q_from)), (ra 9, .inl (kI, 40, .inl q_to)), (ra 10, .inl (kI, 6, .inl q_goal)), (ra 11, .inl (kI, 1019, .inl q_now)), (ra 14, .inl (kI, 12, .inl q_reach)), (ra 17, .inl (kZ, 168, .inl g64_7)), (ra 18, .inl (kI, 12, .inl q_waysTo))] H → va_D A [(m0, .inr (11, oX11 ra y64_0)), (ra 2, .inl (kI, 8, .inl q_told)), (ra 8, .inl (kI, 40, .inl q_from)), (ra 9, .inl (kI, 40, .inl q_to)), (ra 10, .inl (kI, 6, .inl q_goal)), (ra 11, .inl (kI, 1019, .inl q_now)), (ra 14, .inl (kI, 12, .inl q_reach)), (ra 17, .inl (kZ, 168, .inl g64_7)), (ra 18, .inl (kI, 12, .inl q_waysTo))] → va_S A s.heap H locs → lv_has ls 5 [(0, .ref m0), (1, .int p0), (2, .int p1), (3, .int v64_loc3), (4, .int v64_loc4)] → W p l e (headSpec wsX11_truth rm_s11_truth).room s m args0 below meth c H locs (0) (0) (MQ below (va_Qi (fun (r : Int32) (_ : Unit) => True) (fun _ t => ∃ (x0' : Nat → Int32) (q_isAt' : Nat → Int32) (q_waysTo' : Nat → Int32), fI lX11 hX11 x0' ∧ (x0' 1 = x0 1) ∧ (x0' 10 = x0 10) ∧ (x0' 11 = x0 11) ∧ (x0' 14 = x0 14) ∧ va_P (dC, dI) vwCl [(m0, .inr (11, oX11 ra x0')), (ra 2, .inl (kI, 8, .inl q_told)), (ra 8, .inl (kI, 40, .inl q_from)), (ra 9, .inl (kI, 40, .inl q_to)), (ra 10, .inl (kI, 6, .inl q_goal)), (ra 11, .inl (kI, 1019, .inl q_now)), (ra 14, .inl (kI, 12, .inl q_reach)), (ra 17, .inl (kZ, 168, .inl q_isAt')), (ra 18, .inl (kI, 12, .inl q_waysTo'))] t.heap ∧ va_D A [(m0, .inr (11, oX11 ra x0')), (ra 2, .inl (kI, 8, .inl q_told)), (ra 8, .inl (kI, 40, .inl q_from)), (ra 9, .inl (kI, 40, .inl q_to)), (ra 10, .inl (kI, 6, .inl q_goal)), (ra 11, .inl (kI, 1019, .inl q_now)), (ra 14, .inl (kI, 12, .inl q_reach)), (ra 17, .inl (kZ, 168, .inl q_isAt')), (ra 18, .inl (kI, 12, .inl q_waysTo'))]) A) args0 s 0 0 A) (F0 m 64 ls []) := by
    intro n
    induction n with
    | zero => intro y64_0 g64_7 v64_loc3 v64_loc4 H locs ls hm64; exact absurd hm64 (Nat.not_lt_zero _)
    | succ n ih64 =>
      intro y64_0 g64_7 v64_loc3 v64_loc4 H locs ls hm64 hI64_0 h64_2 h64_3 h64_4 h64_5 htp_64 hfp_64 hor_64 hirl_64 hP hD hS hl
      refine lv_iload hx hb dX11_truth_64 (lv_at hl 4 rfl) ?_
      refine lv_bipush (v := 10) hx hb dX11_truth_66 bp_10 ?_
      refine lv_icmp_gt (tgt := 90) hx hb dX11_truth_68 rfl (fun c10 => ?_) (fun c10 => ?_)
      · have b11 : iv 11 11 v64_loc4 := iv_ltR c10 ivk_10 h64_4 (by decide) (by decide)
        refine lv_iload_n hx hb dX11_truth_90 rfl (lv_at hl 3 rfl) ?_
        have hP9 := hP
        have hD9 := hD
        exact W.iret (v := v64_loc3) hx hb hr (fun t ht hW => ⟨⟨v64_loc3, (), rfl, trivial, y64_0, g64_7, q_waysTo, hI64_0, (show y64_0 1 = x0 1 from htp_64), (show y64_0 10 = x0 10 from hfp_64), (show y64_0 11 = x0 11 from hor_64), (show y64_0 14 = x0 14 from hirl_64), by rw [ht]; exact hP9, hD9⟩, hS.F ht⟩) hS.2.2 dX11_truth_91
      · have b12 : iv 1 10 v64_loc4 := iv_leL (Int32.not_lt.mp c10) h64_4 ivk_10 (by decide) (by decide)
        refine lv_iload_n hx hb dX11_truth_71 rfl (lv_at hl 3 rfl) ?_
        refine lv_aload_n hx hb dX11_truth_72 rfl (lv_at hl 0 rfl) ?_
        refine lv_iload_n hx hb dX11_truth_73 rfl (lv_at hl 1 rfl) ?_
        refine lv_iload hx hb dX11_truth_74 (lv_at hl 4 rfl) ?_
        obtain ⟨hPc, hDc, hFc, hJn⟩ := cl_a (wc := [(m0, .inr (11, oX11 ra y64_0)), (ra 2, .inl (kI, 8, .inl q_told)), (ra 8, .inl (kI, 40, .inl q_from)), (ra 9, .inl (kI, 40, .inl q_to)), (ra 10, .inl (kI, 6, .inl q_goal)), (ra 11, .inl (kI, 1019, .inl q_now)), (ra 14, .inl (kI, 12, .inl q_reach)), (ra 17, .inl (kZ, 168, .inl g64_7))]) (wr := [(ra 18, .inl (kI, 12, .inl q_waysTo))]) hP hD hS hA [0, 1, 2, 3, 4, 5, 6, 7] [8] rfl rfl (by decide +kernel)
        refine va_calli (va_runV (As := [.int p0, .int v64_loc4]) (rest := [.int v64_loc3]) ⟨hx, hb, hml, hown, hts⟩ (s11_hidden l dC dI kB kI kJ kZ kC kS H.size m0 ra y64_0 q_told q_from q_to q_goal q_now q_reach g64_7 p0 v64_loc4 (hI64_0) (hq_told) (hq_from) (hq_to) (hq_goal) (hq_now) (h64_2) (b12)) (cwV 2 hts gX11_truth_X11_hidden rfl rfl rfl (by decide +kernel) ⟨Nat.le_of_ble_eq_true rfl, Nat.le_of_ble_eq_true rfl⟩) ⟨fun a U g mk q => by obtain ⟨q0, q1, qP, qE, qD⟩ := q; exact ⟨q0, q1, qP, kE_call qE, qD⟩, va_recv hK hP (ci := 11) (q0 := 0) rfl rfl, fun U hU hW => ⟨rfl, by rw [hU], by rw [hU]; exact hPc, kE_warm hW hE, hDc.weaken (fun _ _ _ _ => trivial)⟩⟩ rfl rfl hl.1 rfl (lv_room (Nat.le_of_ble_eq_true rfl)) dX11_truth_76 ⟨Nat.le_of_ble_eq_true rfl, Nat.le_of_ble_eq_true rfl⟩) hS (fun q _ h => hFc q h) hFc (fun r13 u t H locs ht hvm w14 hB hz1 hk1 hS => ?_)
        obtain ⟨f15, hP1, hD1⟩ := hB
        try dsimp only at w14
        obtain ⟨hPa, hDa⟩ := hJn (w1 := [(m0, .inr (11, oX11 ra y64_0)), (ra 2, .inl (kI, 8, .inl q_told)), (ra 8, .inl (kI, 40, .inl q_from)), (ra 9, .inl (kI, 40, .inl q_to)), (ra 10, .inl (kI, 6, .inl q_goal)), (ra 11, .inl (kI, 1019, .inl q_now)), (ra 14, .inl (kI, 12, .inl q_reach)), (ra 17, .inl (kZ, 168, .inl f15))]) hk1 ht hP1 hD1
        clear hP hD hPc hDc hFc hJn hP1 hD1 hk1
        have hP : va_P (dC, dI) vwCl [(ra 18, .inl (kI, 12, .inl q_waysTo)), (m0, .inr (11, oX11 ra y64_0)), (ra 2, .inl (kI, 8, .inl q_told)), (ra 8, .inl (kI, 40, .inl q_from)), (ra 9, .inl (kI, 40, .inl q_to)), (ra 10, .inl (kI, 6, .inl q_goal)), (ra 11, .inl (kI, 1019, .inl q_now)), (ra 14, .inl (kI, 12, .inl q_reach)), (ra 17, .inl (kZ, 168, .inl f15))] H := hPa
        have hD : va_D A [(ra 18, .inl (kI, 12, .inl q_waysTo)), (m0, .inr (11, oX11 ra y64_0)), (ra 2, .inl (kI, 8, .inl q_told)), (ra 8, .inl (kI, 40, .inl q_from)), (ra 9, .inl (kI, 40, .inl q_to)), (ra 10, .inl (kI, 6, .inl q_goal)), (ra 11, .inl (kI, 1019, .inl q_now)), (ra 14, .inl (kI, 12, .inl q_reach)), (ra 17, .inl (kZ, 168, .inl f15))] := hDa
        clear hPa hDa
        refine W.widen (k := 0) (n := 0) (Nat.le_of_ble_eq_true rfl) (Nat.le_of_ble_eq_true rfl) ?_
        obtain ⟨hPc, hDc, hFc, hJn⟩ := cl_a (wc := []) (wr := [(ra 18, .inl (kI, 12, .inl q_waysTo)), (m0, .inr (11, oX11 ra y64_0)), (ra 2, .inl (kI, 8, .inl q_told)), (ra 8, .inl (kI, 40, .inl q_from)), (ra 9, .inl (kI, 40, .inl q_to)), (ra 10, .inl (kI, 6, .inl q_goal)), (ra 11, .inl (kI, 1019, .inl q_now)), (ra 14, .inl (kI, 12, .inl q_reach)), (ra 17, .inl (kZ, 168, .inl f15))]) hP hD hS hA [] [0, 1, 2, 3, 4, 5, 6, 7, 8] rfl rfl (by decide +kernel)
        refine va_calli (va_runS (As := [.int r13]) (rest := [.int v64_loc3]) ⟨hx, hb, hml, hown, hts⟩ (sJ_bitCount l dC dI kB kI kJ kZ kC kS H.size r13) (va_cwS 1 hts gX11_truth_J6_bitCount_0f7a4 rfl rfl rfl (by decide +kernel) ⟨Nat.le_of_ble_eq_true rfl, Nat.le_of_ble_eq_true rfl⟩) ⟨fun a U g mk q => by obtain ⟨q0, q1, qP, qE, qD⟩ := q; exact ⟨q0, q1, qP, kE_call qE, qD⟩, fun U hU hW => ⟨rfl, by rw [hU], by rw [hU]; exact hPc, kE_warm hW hE, hDc.weaken (fun _ _ _ _ => trivial)⟩⟩ rfl rfl hl.1 rfl (lv_room (Nat.le_of_ble_eq_true rfl)) dX11_truth_79 ⟨Nat.le_of_ble_eq_true rfl, Nat.le_of_ble_eq_true rfl⟩) hS (fun q _ h => hFc q h) hFc (fun r16 u t H locs ht hvm w17 hB hz1 hk1 hS => ?_)
        obtain ⟨hP1, hD1⟩ := hB
        try dsimp only at w17
        obtain ⟨hPa, hDa⟩ := hJn (w1 := []) hk1 ht hP1 hD1
        clear hP hD hPc hDc hFc hJn hP1 hD1 hk1
        have hP : va_P (dC, dI) vwCl [(ra 18, .inl (kI, 12, .inl q_waysTo)), (m0, .inr (11, oX11 ra y64_0)), (ra 2, .inl (kI, 8, .inl q_told)), (ra 8, .inl (kI, 40, .inl q_from)), (ra 9, .inl (kI, 40, .inl q_to)), (ra 10, .inl (kI, 6, .inl q_goal)), (ra 11, .inl (kI, 1019, .inl q_now)), (ra 14, .inl (kI, 12, .inl q_reach)), (ra 17, .inl (kZ, 168, .inl f15))] H := hPa
        have hD : va_D A [(ra 18, .inl (kI, 12, .inl q_waysTo)), (m0, .inr (11, oX11 ra y64_0)), (ra 2, .inl (kI, 8, .inl q_told)), (ra 8, .inl (kI, 40, .inl q_from)), (ra 9, .inl (kI, 40, .inl q_to)), (ra 10, .inl (kI, 6, .inl q_goal)), (ra 11, .inl (kI, 1019, .inl q_now)), (ra 14, .inl (kI, 12, .inl q_reach)), (ra 17, .inl (kZ, 168, .inl f15))] := hDa
        clear hPa hDa
        refine W.widen (k := 0) (n := 0) (Nat.le_of_ble_eq_true rfl) (Nat.le_of_ble_eq_true rfl) ?_
        refine lv_iadd hx hb dX11_truth_82 ?_
        refine lv_topi (fun z18 _ => ?_)
        refine lv_istore_n (lv' := [(3, .int z18), (0, .ref m0), (1, .int p0), (2, .int p1), (4, .int v64_loc4)]) hx hb dX11_truth_83 rfl hl (Nat.le_of_ble_eq_true rfl) rfl (fun ls hl => ?_)
        refine lv_iinc (v := v64_loc4 + Int32.ofInt 1) (lv' := [(4, .int (v64_loc4 + Int32.ofInt 1)), (3, .int z18), (0, .ref m0), (1, .int p0), (2, .int p1)]) hx hb dX11_truth_84 hl (k := 4) rfl (rfl) (Nat.le_of_ble_eq_true rfl) rfl (fun ls hl => ?_)
        have b19 : iv 2 11 (v64_loc4 + Int32.ofInt 1) := iv_add b12 ivo_1 (by decide) (by decide) (by decide) (by decide)
        refine lv_goto (tgt := 64) hx hb dX11_truth_87 rfl ?_
        have hPD9 := cl_s (wc := [(m0, .inr (11, oX11 ra y64_0)), (ra 2, .inl (kI, 8, .inl q_told)), (ra 8, .inl (kI, 40, .inl q_from)), (ra 9, .inl (kI, 40, .inl q_to)), (ra 10, .inl (kI, 6, .inl q_goal)), (ra 11, .inl (kI, 1019, .inl q_now)), (ra 14, .inl (kI, 12, .inl q_reach)), (ra 17, .inl (kZ, 168, .inl f15)), (ra 18, .inl (kI, 12, .inl q_waysTo))]) hP hD [1, 2, 3, 4, 5, 6, 7, 8, 0] rfl (by decide +kernel)
        exact ih64 y64_0 f15 z18 (v64_loc4 + Int32.ofInt 1) _ _ _ (ms_up (c := 1) (d := 0) b12 hm64 (by decide) (iv_inc 1 b12 (by decide) (by decide) (by decide) (by decide)) (by decide) rfl) (hI64_0) (h64_2) (h64_3) ((iv_w b19 (by decide) (by decide))) (h64_5) ((show y64_0 1 = x0 1 from htp_64)) ((show y64_0 10 = x0 10 from hfp_64)) ((show y64_0 11 = x0 11 from hor_64)) ((show y64_0 14 = x0 14 from hirl_64)) (hPD9.1) (hPD9.2) hS (lv_sub hl [2, 3, 4, 1, 0] rfl)
  have hJ55 : ∀ (y55_0 : Nat → Int32) (v55_stk0 : Int32) (H : Heap) (locs : List Loc) (ls : Array Slot), fI lX11 hX11 y55_0 → iv 0 2 p0 → iv 1 2 p1 → iv 0 1 v55_stk0 → iv 0 0 (y55_0 0) → (y55_0 1 = x0 1) → (y55_0 10 = x0 10) → (y55_0 11 = x0 11) → (y55_0 14 = x0 14) → va_P (dC, dI) vwCl [(m0, .inr (11, oX11 ra y55_0)), (ra 2, .inl (kI, 8, .inl q_told)), (ra 8, .inl (kI, 40, .inl q_from)), (ra 9, .inl (kI, 40, .inl q_to)), (ra 10, .inl (kI, 6, .inl q_goal)), (ra 11, .inl (kI, 1019, .inl q_now)), (ra 14, .inl (kI, 12, .inl q_reach)), (ra 17, .inl (kZ, 168, .inl q_isAt)), (ra 18, .inl (kI, 12, .inl q_waysTo))] H → va_D A [(m0, .inr (11, oX11 ra y55_0)), (ra 2, .inl (kI, 8, .inl q_told)), (ra 8, .inl (kI, 40, .inl q_from)), (ra 9, .inl (kI, 40, .inl q_to)), (ra 10, .inl (kI, 6, .inl q_goal)), (ra 11, .inl (kI, 1019, .inl q_now)), (ra 14, .inl (kI, 12, .inl q_reach)), (ra 17, .inl (kZ, 168, .inl q_isAt)), (ra 18, .inl (kI, 12, .inl q_waysTo))] → va_S A s.heap H locs → lv_has ls 5 [(0, .ref m0), (1, .int p0), (2, .int p1)] → W p l e (headSpec wsX11_truth rm_s11_truth).room s m args0 below meth c H locs (0) (0) (MQ below (va_Qi (fun (r : Int32) (_ : Unit) => True) (fun _ t => ∃ (x0' : Nat → Int32) (q_isAt' : Nat → Int32) (q_waysTo' : Nat → Int32), fI lX11 hX11 x0' ∧ (x0' 1 = x0 1) ∧ (x0' 10 = x0 10) ∧ (x0' 11 = x0 11) ∧ (x0' 14 = x0 14) ∧ va_P (dC, dI) vwCl [(m0, .inr (11, oX11 ra x0')), (ra 2, .inl (kI, 8, .inl q_told)), (ra 8, .inl (kI, 40, .inl q_from)), (ra 9, .inl (kI, 40, .inl q_to)), (ra 10, .inl (kI, 6, .inl q_goal)), (ra 11, .inl (kI, 1019, .inl q_now)), (ra 14, .inl (kI, 12, .inl q_reach)), (ra 17, .inl (kZ, 168, .inl q_isAt')), (ra 18, .inl (kI, 12, .inl q_waysTo'))] t.heap ∧ va_D A [(m0, .inr (11, oX11 ra x0')), (ra 2, .inl (kI, 8, .inl q_told)), (ra 8, .inl (kI, 40, .inl q_from)), (ra 9, .inl (kI, 40, .inl q_to)), (ra 10, .inl (kI, 6, .inl q_goal)), (ra 11, .inl (kI, 1019, .inl q_now)), (ra 14, .inl (kI, 12, .inl q_reach)), (ra 17, .inl (kZ, 168, .inl q_isAt')), (ra 18, .inl (kI, 12, .inl q_waysTo'))]) A) args0 s 0 0 A) (F0 m 55 ls [.int v55_stk0, .int p0, .ref m0]) := by
    intro y55_0 v55_stk0 H locs ls hI55_0 h55_2 h55_3 h55_4 h55_5 htp_55 hfp_55 hor_55 hirl_55 hP hD hS hl
    obtain ⟨hPc, hDc, hFc, hJn⟩ := cl_a (wc := [(m0, .inr (11, oX11 ra y55_0)), (ra 2, .inl (kI, 8, .inl q_told)), (ra 8, .inl (kI, 40, .inl q_from)), (ra 9, .inl (kI, 40, .inl q_to)), (ra 10, .inl (kI, 6, .inl q_goal)), (ra 14, .inl (kI, 12, .inl q_reach)), (ra 17, .inl (kZ, 168, .inl q_isAt))]) (wr := [(ra 11, .inl (kI, 1019, .inl q_now)), (ra 18, .inl (kI, 12, .inl q_waysTo))]) hP hD hS hA [0, 1, 2, 3, 4, 6, 7] [5, 8] rfl rfl (by decide +kernel)
    refine va_calli (va_runV (As := [.int p0, .int v55_stk0]) (rest := []) ⟨hx, hb, hml, hown, hts⟩ (s11_length l dC dI kB kI kJ kZ kC kS H.size m0 ra y55_0 q_told q_from q_to q_goal q_reach q_isAt p0 v55_stk0 (hI55_0) (hq_told) (hq_from) (hq_to) (hq_goal) (h55_2) (h55_4)) (cwV 2 hts gX11_truth_X11_length rfl rfl rfl (by decide +kernel) ⟨Nat.le_of_ble_eq_true rfl, Nat.le_of_ble_eq_true rfl⟩) ⟨fun a U g mk q => by obtain ⟨q0, q1, qP, qE, qD⟩ := q; exact ⟨q0, q1, qP, kE_call qE, qD⟩, va_recv hK hP (ci := 11) (q0 := 0) rfl rfl, fun U hU hW => ⟨rfl, by rw [hU], by rw [hU]; exact hPc, kE_warm hW hE, hDc.weaken (fun _ _ _ _ => trivial)⟩⟩ rfl rfl hl.1 rfl (lv_room (Nat.le_of_ble_eq_true rfl)) dX11_truth_55 ⟨Nat.le_of_ble_eq_true rfl, Nat.le_of_ble_eq_true rfl⟩) hS (fun q _ h => hFc q h) hFc (fun r20 u t H locs ht hvm w21 hB hz1 hk1 hS => ?_)
    obtain ⟨f22, hP1, hD1⟩ := hB
    try dsimp only at w21
    obtain ⟨hPa, hDa⟩ := hJn (w1 := [(m0, .inr (11, oX11 ra y55_0)), (ra 2, .inl (kI, 8, .inl q_told)), (ra 8, .inl (kI, 40, .inl q_from)), (ra 9, .inl (kI, 40, .inl q_to)), (ra 10, .inl (kI, 6, .inl q_goal)), (ra 14, .inl (kI, 12, .inl q_reach)), (ra 17, .inl (kZ, 168, .inl f22))]) hk1 ht hP1 hD1
    clear hP hD hPc hDc hFc hJn hP1 hD1 hk1
    have hP : va_P (dC, dI) vwCl [(ra 11, .inl (kI, 1019, .inl q_now)), (ra 18, .inl (kI, 12, .inl q_waysTo)), (m0, .inr (11, oX11 ra y55_0)), (ra 2, .inl (kI, 8, .inl q_told)), (ra 8, .inl (kI, 40, .inl q_from)), (ra 9, .inl (kI, 40, .inl q_to)), (ra 10, .inl (kI, 6, .inl q_goal)), (ra 14, .inl (kI, 12, .inl q_reach)), (ra 17, .inl (kZ, 168, .inl f22))] H := hPa
    have hD : va_D A [(ra 11, .inl (kI, 1019, .inl q_now)), (ra 18, .inl (kI, 12, .inl q_waysTo)), (m0, .inr (11, oX11 ra y55_0)), (ra 2, .inl (kI, 8, .inl q_told)), (ra 8, .inl (kI, 40, .inl q_from)), (ra 9, .inl (kI, 40, .inl q_to)), (ra 10, .inl (kI, 6, .inl q_goal)), (ra 14, .inl (kI, 12, .inl q_reach)), (ra 17, .inl (kZ, 168, .inl f22))] := hDa
    clear hPa hDa
    refine W.widen (k := 0) (n := 0) (Nat.le_of_ble_eq_true rfl) (Nat.le_of_ble_eq_true rfl) ?_
    have hPD9 := cl_s (wc := [(m0, .inr (11, oX11 ra y55_0)), (ra 2, .inl (kI, 8, .inl q_told)), (ra 8, .inl (kI, 40, .inl q_from)), (ra 9, .inl (kI, 40, .inl q_to)), (ra 10, .inl (kI, 6, .inl q_goal)), (ra 11, .inl (kI, 1019, .inl q_now)), (ra 14, .inl (kI, 12, .inl q_reach)), (ra 17, .inl (kZ, 168, .inl f22)), (ra 18, .inl (kI, 12, .inl q_waysTo))]) hP hD [2, 3, 4, 5, 6, 0, 7, 8, 1] rfl (by decide +kernel)
    have hP9 := hPD9.1
    have hD9 := hPD9.2
    exact W.iret (v := r20) hx hb hr (fun t ht hW => ⟨⟨r20, (), rfl, trivial, y55_0, f22, q_waysTo, hI55_0, (show y55_0 1 = x0 1 from htp_55), (show y55_0 10 = x0 10 from hfp_55), (show y55_0 11 = x0 11 from hor_55), (show y55_0 14 = x0 14 from hirl_55), by rw [ht]; exact hP9, hD9⟩, hS.F ht⟩) hS.2.2 dX11_truth_58
  refine lv_aload_n hx hb dX11_truth_0 rfl (lv_at hl 0 rfl) ?_
  refine lv_iconst (v := 0) hx hb dX11_truth_1 ic_0 ?_
  refine va_put (D := (dC, dI)) (ci := 11) (v := .int 0) (ty := .int) (C := RX11) (T := TX11) (N := 61) hx hb hts hin11 tyX11 tyX11_ok nmX11 hown hK hP hD hS 0 rfl rfl 2 (by decide) hw_0 (fun _ h9 => h9) rfl (by decide +kernel) rfl rfl (Nat.le_of_ble_eq_true rfl) dX11_truth_2 (fun H locs hPa hDa hS => ?_)
  clear hP hD
  have hP : va_P (dC, dI) vwCl [(m0, .inr (11, oX11 ra (upd x0 0 0))), (ra 2, .inl (kI, 8, .inl q_told)), (ra 8, .inl (kI, 40, .inl q_from)), (ra 9, .inl (kI, 40, .inl q_to)), (ra 10, .inl (kI, 6, .inl q_goal)), (ra 11, .inl (kI, 1019, .inl q_now)), (ra 14, .inl (kI, 12, .inl q_reach)), (ra 17, .inl (kZ, 168, .inl q_isAt)), (ra 18, .inl (kI, 12, .inl q_waysTo))] H := hPa
  have hD : va_D A [(m0, .inr (11, oX11 ra (upd x0 0 0))), (ra 2, .inl (kI, 8, .inl q_told)), (ra 8, .inl (kI, 40, .inl q_from)), (ra 9, .inl (kI, 40, .inl q_to)), (ra 10, .inl (kI, 6, .inl q_goal)), (ra 11, .inl (kI, 1019, .inl q_now)), (ra 14, .inl (kI, 12, .inl q_reach)), (ra 17, .inl (kZ, 168, .inl q_isAt)), (ra 18, .inl (kI, 12, .inl q_waysTo))] := hDa
  clear hPa hDa
  refine lv_aload_n hx hb dX11_truth_5 rfl (lv_at hl 0 rfl) ?_
  refine lv_iload_n hx hb dX11_truth_6 rfl (lv_at hl 1 rfl) ?_
  obtain ⟨hPc, hDc, hFc, hJn⟩ := cl_a (wc := [(m0, .inr (11, oX11 ra (upd x0 0 0))), (ra 2, .inl (kI, 8, .inl q_told))]) (wr := [(ra 8, .inl (kI, 40, .inl q_from)), (ra 9, .inl (kI, 40, .inl q_to)), (ra 10, .inl (kI, 6, .inl q_goal)), (ra 11, .inl (kI, 1019, .inl q_now)), (ra 14, .inl (kI, 12, .inl q_reach)), (ra 17, .inl (kZ, 168, .inl q_isAt)), (ra 18, .inl (kI, 12, .inl q_waysTo))]) hP hD hS hA [0, 1] [2, 3, 4, 5, 6, 7, 8] rfl rfl (by decide +kernel)
  refine va_calli (va_runV (As := [.int p0]) (rest := []) ⟨hx, hb, hml, hown, hts⟩ (s11_isGoal l dC dI kB kI kJ kZ kC kS H.size m0 ra (upd x0 0 0) q_told p0 ((fI_u hX (k := 0) ((iv_w ivk_0 (by decide) (by decide))))) (hq_told)) (cwV 1 hts gX11_truth_X11_isGoal rfl rfl rfl (by decide +kernel) ⟨Nat.le_of_ble_eq_true rfl, Nat.le_of_ble_eq_true rfl⟩) ⟨fun a U g mk q => by obtain ⟨q0, q1, qP, qE, qD⟩ := q; exact ⟨q0, q1, qP, kE_call qE, qD⟩, va_recv hK hP (ci := 11) (q0 := 0) rfl rfl, fun U hU hW => ⟨rfl, by rw [hU], by rw [hU]; exact hPc, kE_warm hW hE, hDc.weaken (fun _ _ _ _ => trivial)⟩⟩ rfl rfl hl.1 rfl (lv_room (Nat.le_of_ble_eq_true rfl)) dX11_truth_7 ⟨Nat.le_of_ble_eq_true rfl, Nat.le_of_ble_eq_true rfl⟩) hS (fun q _ h => hFc q h) hFc (fun r23 u t H locs ht hvm w24 hB hz1 hk1 hS => ?_)
  obtain ⟨hP1, hD1⟩ := hB
  try dsimp only at w24
  obtain ⟨hPa, hDa⟩ := hJn (w1 := [(m0, .inr (11, oX11 ra (upd x0 0 0))), (ra 2, .inl (kI, 8, .inl q_told))]) hk1 ht hP1 hD1
  clear hP hD hPc hDc hFc hJn hP1 hD1 hk1
  have hP : va_P (dC, dI) vwCl [(ra 8, .inl (kI, 40, .inl q_from)), (ra 9, .inl (kI, 40, .inl q_to)), (ra 10, .inl (kI, 6, .inl q_goal)), (ra 11, .inl (kI, 1019, .inl q_now)), (ra 14, .inl (kI, 12, .inl q_reach)), (ra 17, .inl (kZ, 168, .inl q_isAt)), (ra 18, .inl (kI, 12, .inl q_waysTo)), (m0, .inr (11, oX11 ra (upd x0 0 0))), (ra 2, .inl (kI, 8, .inl q_told))] H := hPa
  have hD : va_D A [(ra 8, .inl (kI, 40, .inl q_from)), (ra 9, .inl (kI, 40, .inl q_to)), (ra 10, .inl (kI, 6, .inl q_goal)), (ra 11, .inl (kI, 1019, .inl q_now)), (ra 14, .inl (kI, 12, .inl q_reach)), (ra 17, .inl (kZ, 168, .inl q_isAt)), (ra 18, .inl (kI, 12, .inl q_waysTo)), (m0, .inr (11, oX11 ra (upd x0 0 0))), (ra 2, .inl (kI, 8, .inl q_told))] := hDa
  clear hPa hDa
  refine W.widen (k := 0) (n := 0) (Nat.le_of_ble_eq_true rfl) (Nat.le_of_ble_eq_true rfl) ?_
  refine lv_if_eq (tgt := 22) hx hb dX11_truth_10 rfl (fun c25 => ?_) (fun c25 => ?_)
  · have b26 : iv 0 0 r23 := iv_eqL c25 ivk_0
    have hPD9 := cl_s (wc := [(m0, .inr (11, oX11 ra (upd x0 0 0))), (ra 2, .inl (kI, 8, .inl q_told)), (ra 8, .inl (kI, 40, .inl q_from)), (ra 9, .inl (kI, 40, .inl q_to)), (ra 10, .inl (kI, 6, .inl q_goal)), (ra 11, .inl (kI, 1019, .inl q_now)), (ra 14, .inl (kI, 12, .inl q_reach)), (ra 17, .inl (kZ, 168, .inl q_isAt)), (ra 18, .inl (kI, 12, .inl q_waysTo))]) hP hD [7, 8, 0, 1, 2, 3, 4, 5, 6] rfl (by decide +kernel)
    exact hJ22 (upd x0 0 0) _ _ _ ((fI_u hX (k := 0) ((iv_w ivk_0 (by decide) (by decide))))) (ivk_0) ((show x0 1 = x0 1 from rfl)) ((show x0 10 = x0 10 from rfl)) ((show x0 11 = x0 11 from rfl)) ((show x0 14 = x0 14 from rfl)) (hPD9.1) (hPD9.2) hS (lv_sub hl [0, 1, 2] rfl)
  · have b27 : iv 1 1 r23 := iv_neLo c25 w24.1 ivk_0 (by decide) (by decide)
    have b28 : iv 0 2 p0 := (w24.2).resolve_left (iv_ne b27 ivk_0 (by decide))
    refine lv_iload_n hx hb dX11_truth_13 rfl (lv_at hl 2 rfl) ?_
    refine lv_iconst (v := 0) hx hb dX11_truth_14 ic_0 ?_
    refine lv_iconst (v := 3) hx hb dX11_truth_15 ic_3 ?_
    obtain ⟨hPc, hDc, hFc, hJn⟩ := cl_a (wc := []) (wr := [(ra 8, .inl (kI, 40, .inl q_from)), (ra 9, .inl (kI, 40, .inl q_to)), (ra 10, .inl (kI, 6, .inl q_goal)), (ra 11, .inl (kI, 1019, .inl q_now)), (ra 14, .inl (kI, 12, .inl q_reach)), (ra 17, .inl (kZ, 168, .inl q_isAt)), (ra 18, .inl (kI, 12, .inl q_waysTo)), (m0, .inr (11, oX11 ra (upd x0 0 0))), (ra 2, .inl (kI, 8, .inl q_told))]) hP hD hS hA [] [0, 1, 2, 3, 4, 5, 6, 7, 8] rfl rfl (by decide +kernel)
    refine va_calli (va_runS (As := [.int p1, .int 0, .int 3]) (rest := []) ⟨hx, hb, hml, hown, hts⟩ (s11_isIn l dC dI kB kI kJ kZ kC kS H.size p1 0 3) (va_cwS 3 hts gX11_truth_X11_isIn rfl rfl rfl (by decide +kernel) ⟨Nat.le_of_ble_eq_true rfl, Nat.le_of_ble_eq_true rfl⟩) ⟨fun a U g mk q => by obtain ⟨q0, q1, qP, qE, qD⟩ := q; exact ⟨q0, q1, qP, kE_call qE, qD⟩, fun U hU hW => ⟨rfl, by rw [hU], by rw [hU]; exact hPc, kE_warm hW hE, hDc.weaken (fun _ _ _ _ => trivial)⟩⟩ rfl rfl hl.1 rfl (lv_room (Nat.le_of_ble_eq_true rfl)) dX11_truth_16 ⟨Nat.le_of_ble_eq_true rfl, Nat.le_of_ble_eq_true rfl⟩) hS (fun q _ h => hFc q h) hFc (fun r29 u t H locs ht hvm w30 hB hz1 hk1 hS => ?_)
    obtain ⟨hP1, hD1⟩ := hB
    try dsimp only at w30
    obtain ⟨hPa, hDa⟩ := hJn (w1 := []) hk1 ht hP1 hD1
    clear hP hD hPc hDc hFc hJn hP1 hD1 hk1
    have hP : va_P (dC, dI) vwCl [(ra 8, .inl (kI, 40, .inl q_from)), (ra 9, .inl (kI, 40, .inl q_to)), (ra 10, .inl (kI, 6, .inl q_goal)), (ra 11, .inl (kI, 1019, .inl q_now)), (ra 14, .inl (kI, 12, .inl q_reach)), (ra 17, .inl (kZ, 168, .inl q_isAt)), (ra 18, .inl (kI, 12, .inl q_waysTo)), (m0, .inr (11, oX11 ra (upd x0 0 0))), (ra 2, .inl (kI, 8, .inl q_told))] H := hPa
    have hD : va_D A [(ra 8, .inl (kI, 40, .inl q_from)), (ra 9, .inl (kI, 40, .inl q_to)), (ra 10, .inl (kI, 6, .inl q_goal)), (ra 11, .inl (kI, 1019, .inl q_now)), (ra 14, .inl (kI, 12, .inl q_reach)), (ra 17, .inl (kZ, 168, .inl q_isAt)), (ra 18, .inl (kI, 12, .inl q_waysTo)), (m0, .inr (11, oX11 ra (upd x0 0 0))), (ra 2, .inl (kI, 8, .inl q_told))] := hDa
    clear hPa hDa
    refine W.widen (k := 0) (n := 0) (Nat.le_of_ble_eq_true rfl) (Nat.le_of_ble_eq_true rfl) ?_
    refine lv_if_ne (tgt := 28) hx hb dX11_truth_19 rfl (fun c31 => ?_) (fun c31 => ?_)
    · have b32 : iv 1 1 r29 := iv_neLo c31 w30.1 ivk_0 (by decide) (by decide)
      have hr33 := (w30.2).resolve_left (iv_ne b32 ivk_0 (by decide))
      have b34 : iv 0 3 p1 := iv_cap (in_iv hr33 ivk_0 ivk_3) (iv_t p1) (by decide) (by decide)
      refine lv_iload_n hx hb dX11_truth_28 rfl (lv_at hl 2 rfl) ?_
      refine lv_if_ne (tgt := 38) hx hb dX11_truth_29 rfl (fun c35 => ?_) (fun c35 => ?_)
      · have b36 : iv 1 3 p1 := iv_neLo c35 b34 ivk_0 (by decide) (by decide)
        refine lv_iload_n hx hb dX11_truth_38 rfl (lv_at hl 2 rfl) ?_
        refine lv_iconst (v := 3) hx hb dX11_truth_39 ic_3 ?_
        refine lv_icmp_ge (tgt := 59) hx hb dX11_truth_40 rfl (fun c37 => ?_) (fun c37 => ?_)
        · have b38 : iv 3 3 p1 := iv_leR c37 ivk_3 b36 (by decide) (by decide)
          refine lv_iconst (v := 0) hx hb dX11_truth_59 ic_0 ?_
          refine lv_istore_n (lv' := [(3, .int 0), (0, .ref m0), (1, .int p0), (2, .int p1)]) hx hb dX11_truth_60 rfl hl (Nat.le_of_ble_eq_true rfl) rfl (fun ls hl => ?_)
          refine lv_iconst (v := 1) hx hb dX11_truth_61 ic_1 ?_
          refine lv_istore (lv' := [(4, .int 1), (3, .int 0), (0, .ref m0), (1, .int p0), (2, .int p1)]) hx hb dX11_truth_62 hl (Nat.le_of_ble_eq_true rfl) rfl (fun ls hl => ?_)
          have hPD9 := cl_s (wc := [(m0, .inr (11, oX11 ra (upd x0 0 0))), (ra 2, .inl (kI, 8, .inl q_told)), (ra 8, .inl (kI, 40, .inl q_from)), (ra 9, .inl (kI, 40, .inl q_to)), (ra 10, .inl (kI, 6, .inl q_goal)), (ra 11, .inl (kI, 1019, .inl q_now)), (ra 14, .inl (kI, 12, .inl q_reach)), (ra 17, .inl (kZ, 168, .inl q_isAt)), (ra 18, .inl (kI, 12, .inl q_waysTo))]) hP hD [7, 8, 0, 1, 2, 3, 4, 5, 6] rfl (by decide +kernel)
          exact hJ64 _ (upd x0 0 0) q_isAt 0 1 _ _ _ (Nat.lt_succ_self _) ((fI_u hX (k := 0) ((iv_w ivk_0 (by decide) (by decide))))) (b28) (b38) ((iv_w ivk_1 (by decide) (by decide))) (ivk_0) ((show x0 1 = x0 1 from rfl)) ((show x0 10 = x0 10 from rfl)) ((show x0 11 = x0 11 from rfl)) ((show x0 14 = x0 14 from rfl)) (hPD9.1) (hPD9.2) hS (lv_sub hl [2, 3, 4, 1, 0] rfl)
        · have b39 : iv 1 2 p1 := iv_ltL (Int32.not_le.mp c37) b36 ivk_3 (by decide) (by decide)
          refine lv_aload_n hx hb dX11_truth_43 rfl (lv_at hl 0 rfl) ?_
          refine lv_iload_n hx hb dX11_truth_44 rfl (lv_at hl 1 rfl) ?_
          refine lv_iload_n hx hb dX11_truth_45 rfl (lv_at hl 2 rfl) ?_
          refine lv_iconst (v := 1) hx hb dX11_truth_46 ic_1 ?_
          refine lv_icmp_ne (tgt := 54) hx hb dX11_truth_47 rfl (fun c40 => ?_) (fun c40 => ?_)
          · have b41 : iv 2 2 p1 := iv_neLo c40 b39 ivk_1 (by decide) (by decide)
            refine lv_iconst (v := 0) hx hb dX11_truth_54 ic_0 ?_
            have hPD9 := cl_s (wc := [(m0, .inr (11, oX11 ra (upd x0 0 0))), (ra 2, .inl (kI, 8, .inl q_told)), (ra 8, .inl (kI, 40, .inl q_from)), (ra 9, .inl (kI, 40, .inl q_to)), (ra 10, .inl (kI, 6, .inl q_goal)), (ra 11, .inl (kI, 1019, .inl q_now)), (ra 14, .inl (kI, 12, .inl q_reach)), (ra 17, .inl (kZ, 168, .inl q_isAt)), (ra 18, .inl (kI, 12, .inl q_waysTo))]) hP hD [7, 8, 0, 1, 2, 3, 4, 5, 6] rfl (by decide +kernel)
            exact hJ55 (upd x0 0 0) 0 _ _ _ ((fI_u hX (k := 0) ((iv_w ivk_0 (by decide) (by decide))))) (b28) ((iv_w b41 (by decide) (by decide))) ((iv_w ivk_0 (by decide) (by decide))) (ivk_0) ((show x0 1 = x0 1 from rfl)) ((show x0 10 = x0 10 from rfl)) ((show x0 11 = x0 11 from rfl)) ((show x0 14 = x0 14 from rfl)) (hPD9.1) (hPD9.2) hS (lv_sub hl [0, 1, 2] rfl)
          · have b42 : iv 1 1 p1 := iv_eqL c40 ivk_1
            refine lv_iconst (v := 1) hx hb dX11_truth_50 ic_1 ?_
            refine lv_goto (tgt := 55) hx hb dX11_truth_51 rfl ?_
            have hPD9 := cl_s (wc := [(m0, .inr (11, oX11 ra (upd x0 0 0))), (ra 2, .inl (kI, 8, .inl q_told)), (ra 8, .inl (kI, 40, .inl q_from)), (ra 9, .inl (kI, 40, .inl q_to)), (ra 10, .inl (kI, 6, .inl q_goal)), (ra 11, .inl (kI, 1019, .inl q_now)), (ra 14, .inl (kI, 12, .inl q_reach)), (ra 17, .inl (kZ, 168, .inl q_isAt)), (ra 18, .inl (kI, 12, .inl q_waysTo))]) hP hD [7, 8, 0, 1, 2, 3, 4, 5, 6] rfl (by decide +kernel)
            exact hJ55 (upd x0 0 0) 1 _ _ _ ((fI_u hX (k := 0) ((iv_w ivk_0 (by decide) (by decide))))) (b28) ((iv_w b42 (by decide) (by decide))) ((iv_w ivk_1 (by decide) (by decide))) (ivk_0) ((show x0 1 = x0 1 from rfl)) ((show x0 10 = x0 10 from rfl)) ((show x0 11 = x0 11 from rfl)) ((show x0 14 = x0 14 from rfl)) (hPD9.1) (hPD9.2) hS (lv_sub hl [0, 1, 2] rfl)
      · have b43 : iv 0 0 p1 := iv_eqL c35 ivk_0
        refine lv_aload_n hx hb dX11_truth_32 rfl (lv_at hl 0 rfl) ?_
        refine lv_iload_n hx hb dX11_truth_33 rfl (lv_at hl 1 rfl) ?_
        obtain ⟨hPc, hDc, hFc, hJn⟩ := cl_a (wc := [(m0, .inr (11, oX11 ra (upd x0 0 0))), (ra 2, .inl (kI, 8, .inl q_told)), (ra 8, .inl (kI, 40, .inl q_from)), (ra 9, .inl (kI, 40, .inl q_to)), (ra 10, .inl (kI, 6, .inl q_goal)), (ra 18, .inl (kI, 12, .inl q_waysTo))]) (wr := [(ra 11, .inl (kI, 1019, .inl q_now)), (ra 14, .inl (kI, 12, .inl q_reach)), (ra 17, .inl (kZ, 168, .inl q_isAt))]) hP hD hS hA [7, 8, 0, 1, 2, 6] [3, 4, 5] rfl rfl (by decide +kernel)
        refine va_calli (va_runV (As := [.int p0]) (rest := []) ⟨hx, hb, hml, hown, hts⟩ (s11_ways l dC dI kB kI kJ kZ kC kS H.size m0 ra (upd x0 0 0) q_told q_from q_to q_goal q_waysTo p0 ((fI_u hX (k := 0) ((iv_w ivk_0 (by decide) (by decide))))) (hq_told) (hq_from) (hq_to) (hq_goal) (b28)) (cwV 1 hts gX11_truth_X11_ways rfl rfl rfl (by decide +kernel) ⟨Nat.le_of_ble_eq_true rfl, Nat.le_of_ble_eq_true rfl⟩) ⟨fun a U g mk q => by obtain ⟨q0, q1, qP, qE, qD⟩ := q; exact ⟨q0, q1, qP, kE_call qE, qD⟩, va_recv hK hP (ci := 11) (q0 := 7) rfl rfl, fun U hU hW => ⟨rfl, by rw [hU], by rw [hU]; exact hPc, kE_warm hW hE, hDc.weaken (fun _ _ _ _ => trivial)⟩⟩ rfl rfl hl.1 rfl (lv_room (Nat.le_of_ble_eq_true rfl)) dX11_truth_34 ⟨Nat.le_of_ble_eq_true rfl, Nat.le_of_ble_eq_true rfl⟩) hS (fun q _ h => hFc q h) hFc (fun r44 u t H locs ht hvm w45 hB hz1 hk1 hS => ?_)
        obtain ⟨f46, hP1, hD1⟩ := hB
        try dsimp only at w45
        obtain ⟨hPa, hDa⟩ := hJn (w1 := [(m0, .inr (11, oX11 ra (upd x0 0 0))), (ra 2, .inl (kI, 8, .inl q_told)), (ra 8, .inl (kI, 40, .inl q_from)), (ra 9, .inl (kI, 40, .inl q_to)), (ra 10, .inl (kI, 6, .inl q_goal)), (ra 18, .inl (kI, 12, .inl f46))]) hk1 ht hP1 hD1
        clear hP hD hPc hDc hFc hJn hP1 hD1 hk1
        have hP : va_P (dC, dI) vwCl [(ra 11, .inl (kI, 1019, .inl q_now)), (ra 14, .inl (kI, 12, .inl q_reach)), (ra 17, .inl (kZ, 168, .inl q_isAt)), (m0, .inr (11, oX11 ra (upd x0 0 0))), (ra 2, .inl (kI, 8, .inl q_told)), (ra 8, .inl (kI, 40, .inl q_from)), (ra 9, .inl (kI, 40, .inl q_to)), (ra 10, .inl (kI, 6, .inl q_goal)), (ra 18, .inl (kI, 12, .inl f46))] H := hPa
        have hD : va_D A [(ra 11, .inl (kI, 1019, .inl q_now)), (ra 14, .inl (kI, 12, .inl q_reach)), (ra 17, .inl (kZ, 168, .inl q_isAt)), (m0, .inr (11, oX11 ra (upd x0 0 0))), (ra 2, .inl (kI, 8, .inl q_told)), (ra 8, .inl (kI, 40, .inl q_from)), (ra 9, .inl (kI, 40, .inl q_to)), (ra 10, .inl (kI, 6, .inl q_goal)), (ra 18, .inl (kI, 12, .inl f46))] := hDa
        clear hPa hDa
        refine W.widen (k := 0) (n := 0) (Nat.le_of_ble_eq_true rfl) (Nat.le_of_ble_eq_true rfl) ?_
        have hPD9 := cl_s (wc := [(m0, .inr (11, oX11 ra (upd x0 0 0))), (ra 2, .inl (kI, 8, .inl q_told)), (ra 8, .inl (kI, 40, .inl q_from)), (ra 9, .inl (kI, 40, .inl q_to)), (ra 10, .inl (kI, 6, .inl q_goal)), (ra 11, .inl (kI, 1019, .inl q_now)), (ra 14, .inl (kI, 12, .inl q_reach)), (ra 17, .inl (kZ, 168, .inl q_isAt)), (ra 18, .inl (kI, 12, .inl f46))]) hP hD [3, 4, 5, 6, 7, 0, 1, 2, 8] rfl (by decide +kernel)
        have hP9 := hPD9.1
        have hD9 := hPD9.2
        exact W.iret (v := r44) hx hb hr (fun t ht hW => ⟨⟨r44, (), rfl, trivial, upd x0 0 0, q_isAt, f46, (fI_u hX (k := 0) ((iv_w ivk_0 (by decide) (by decide)))), (show x0 1 = x0 1 from rfl), (show x0 10 = x0 10 from rfl), (show x0 11 = x0 11 from rfl), (show x0 14 = x0 14 from rfl), by rw [ht]; exact hP9, hD9⟩, hS.F ht⟩) hS.2.2 dX11_truth_37
    · have b47 : iv 0 0 r29 := iv_eqL c31 ivk_0
      have hPD9 := cl_s (wc := [(m0, .inr (11, oX11 ra (upd x0 0 0))), (ra 2, .inl (kI, 8, .inl q_told)), (ra 8, .inl (kI, 40, .inl q_from)), (ra 9, .inl (kI, 40, .inl q_to)), (ra 10, .inl (kI, 6, .inl q_goal)), (ra 11, .inl (kI, 1019, .inl q_now)), (ra 14, .inl (kI, 12, .inl q_reach)), (ra 17, .inl (kZ, 168, .inl q_isAt)), (ra 18, .inl (kI, 12, .inl q_waysTo))]) hP hD [7, 8, 0, 1, 2, 3, 4, 5, 6] rfl (by decide +kernel)
      exact hJ22 (upd x0 0 0) _ _ _ ((fI_u hX (k := 0) ((iv_w ivk_0 (by decide) (by decide))))) (ivk_0) ((show x0 1 = x0 1 from rfl)) ((show x0 10 = x0 10 from rfl)) ((show x0 11 = x0 11 from rfl)) ((show x0 14 = x0 14 from rfl)) (hPD9.1) (hPD9.2) hS (lv_sub hl [0, 1, 2] rfl)
def rm_s11_same : Room := { frames := 2, cells := 0, slots := 0, locals := 43 }
set_option maxHeartbeats 4000000 in
set_option maxRecDepth 100000 in
theorem s11_same (l : Launch) (dC : Nat → ClassId) (dI : Nat → Nat → Nat) (kB kI kJ kZ kC kS : ClassId) (sz : Nat) (m0 : Nat) (ra : Nat → Nat) (x0 : Nat → Int32) (q_told : Nat → Int32) (q_to : Nat → Int32) (p0 : Int32) (p1 : Int32) (hX : fI lX11 hX11 x0) (hq_told : fI lTold hTold q_told) (hq_to : fI (fun _ => 0) (fun _ => 11) q_to) : Met l yX11_same wsX11_same rm_s11_same (va_Pc [.ref m0, .int p0, .int p1] (fun U => U.heap.size = sz ∧ va_P (dC, dI) vwCl [(m0, .inr (11, oX11 ra x0)), (ra 2, .inl (kI, 8, .inl q_told)), (ra 9, .inl (kI, 40, .inl q_to))] U.heap ∧ kE dC dI kB kI kJ kZ kC kS U ∧ va_D (fun _ => True) [(m0, .inr (11, oX11 ra x0)), (ra 2, .inl (kI, 8, .inl q_told)), (ra 9, .inl (kI, 40, .inl q_to))])) (va_Qi (fun (r : Int32) (_ : Unit) => iv 0 1 r) (fun _ t => ∃ (x0' : Nat → Int32), fI lX11 hX11 x0' ∧ (x0' 1 = x0 1) ∧ (x0' 10 = x0 10) ∧ (x0' 11 = x0 11) ∧ (x0' 14 = x0 14) ∧ va_P (dC, dI) vwCl [(m0, .inr (11, oX11 ra x0')), (ra 2, .inl (kI, 8, .inl q_told)), (ra 9, .inl (kI, 40, .inl q_to))] t.heap ∧ va_D (va_A [(m0, .inr (11, oX11 ra x0)), (ra 2, .inl (kI, 8, .inl q_told)), (ra 9, .inl (kI, 40, .inl q_to))] sz) [(m0, .inr (11, oX11 ra x0')), (ra 2, .inl (kI, 8, .inl q_told)), (ra 9, .inl (kI, 40, .inl q_to))]) (va_A [(m0, .inr (11, oX11 ra x0)), (ra 2, .inl (kI, 8, .inl q_told)), (ra 9, .inl (kI, 40, .inl q_to))] sz)) 0 0 (va_A [(m0, .inr (11, oX11 ra x0)), (ra 2, .inl (kI, 8, .inl q_told)), (ra 9, .inl (kI, 40, .inl q_to))] sz) := by
  refine Met.ofW (cc := cX11_same) (maxL := 3) (ret := (some .int)) (by decide) rfl ?_
  intro p e s m args0 below meth c s₁ B hml hv
  obtain ⟨hargs, hsz, hP, hE, hD0⟩ := hv
  have hx := B.exec
  have hb := B.bytes
  have hr := B.returns
  have hts := atoms_spec (ws := wsX11_same) B.pre
  have hown : s.vm.findClass RX11 = some m.cls := findClass_of_methodNamed B.named
  have hlocks := B.notSynchronized
  have hK := hE.1
  have hin11 : ∀ w ∈ wsX110, w ∈ wsX11_same := fun _ h9 => List.mem_cons_of_mem _ (List.mem_append_right _ h9)
  have hw_0 := hts (.fieldLink RX11 142 "PathProberModel" "code" "I") (List.mem_of_getElem? (i := 1) rfl)
  subst hsz
  have hD := hD0.self (sz := s.heap.size)
  generalize hAe : va_A [(m0, .inr (11, oX11 ra x0)), (ra 2, .inl (kI, 8, .inl q_told)), (ra 9, .inl (kI, 40, .inl q_to))] s.heap.size = A at hD ⊢
  have hA : ∀ q : Nat, s.heap.size ≤ q → A q := fun q h => by rw [← hAe]; exact Or.inr h
  have hS : va_S A s.heap s.heap [] := va_S.rf
  have hP : va_P (dC, dI) vwCl [(m0, .inr (11, oX11 ra x0)), (ra 2, .inl (kI, 8, .inl q_told)), (ra 9, .inl (kI, 40, .inl q_to))] s.heap := hP
  have hl := lv_entry ([.ref m0, .int p0, .int p1]) (n := 3) (Nat.le_of_ble_eq_true rfl)
  have hla : entryFrame m args0 3 = entryFrame m ([.ref m0, .int p0, .int p1] : List Value).toArray 3 := by rw [hargs]
  rw [hla, lg_entry_eq]
  generalize (lg_sl ([.ref m0, .int p0, .int p1]) ++ List.replicate (3 - (lg_sl ([.ref m0, .int p0, .int p1])).length) Slot.unset).toArray = ls at hl ⊢
  have hl : lv_has ls 3 [(0, .ref m0), (1, .int p0), (2, .int p1)] := hl
  have hJ42 : ∀ (y42_0 : Nat → Int32) (H : Heap) (locs : List Loc) (ls : Array Slot), fI lX11 hX11 y42_0 → iv 0 0 (y42_0 0) → (y42_0 1 = x0 1) → (y42_0 10 = x0 10) → (y42_0 11 = x0 11) → (y42_0 14 = x0 14) → va_P (dC, dI) vwCl [(m0, .inr (11, oX11 ra y42_0)), (ra 2, .inl (kI, 8, .inl q_told)), (ra 9, .inl (kI, 40, .inl q_to))] H → va_D A [(m0, .inr (11, oX11 ra y42_0)), (ra 2, .inl (kI, 8, .inl q_told)), (ra 9, .inl (kI, 40, .inl q_to))] → va_S A s.heap H locs → lv_has ls 3 [(0, .ref m0), (1, .int p0), (2, .int p1)] → W p l e (headSpec wsX11_same rm_s11_same).room s m args0 below meth c H locs (0) (0) (MQ below (va_Qi (fun (r : Int32) (_ : Unit) => iv 0 1 r) (fun _ t => ∃ (x0' : Nat → Int32), fI lX11 hX11 x0' ∧ (x0' 1 = x0 1) ∧ (x0' 10 = x0 10) ∧ (x0' 11 = x0 11) ∧ (x0' 14 = x0 14) ∧ va_P (dC, dI) vwCl [(m0, .inr (11, oX11 ra x0')), (ra 2, .inl (kI, 8, .inl q_told)), (ra 9, .inl (kI, 40, .inl q_to))] t.heap ∧ va_D A [(m0, .inr (11, oX11 ra x0')), (ra 2, .inl (kI, 8, .inl q_told)), (ra 9, .inl (kI, 40, .inl q_to))]) A) args0 s 0 0 A) (F0 m 42 ls []) := by
    intro y42_0 H locs ls hI42_0 h42_2 htp_42 hfp_42 hor_42 hirl_42 hP hD hS hl
    refine lv_aload_n hx hb dX11_same_42 rfl (lv_at hl 0 rfl) ?_
    refine lv_iconst (v := 1) hx hb dX11_same_43 ic_1 ?_
    obtain ⟨hPc, hDc, hFc, hJn⟩ := cl_a (wc := [(m0, .inr (11, oX11 ra y42_0))]) (wr := [(ra 2, .inl (kI, 8, .inl q_told)), (ra 9, .inl (kI, 40, .inl q_to))]) hP hD hS hA [0] [1, 2] rfl rfl (by decide +kernel)
    refine va_calli (va_runV (As := [.int 1]) (rest := []) ⟨hx, hb, hml, hown, hts⟩ (s11_fail l dC dI kB kI kJ kZ kC kS H.size m0 ra y42_0 1 (hI42_0)) (cwV 1 hts gX11_same_X11_fail rfl rfl rfl (by decide +kernel) ⟨Nat.le_of_ble_eq_true rfl, Nat.le_of_ble_eq_true rfl⟩) ⟨fun a U g mk q => by obtain ⟨q0, q1, qP, qE, qD⟩ := q; exact ⟨q0, q1, qP, kE_call qE, qD⟩, va_recv hK hP (ci := 11) (q0 := 0) rfl rfl, fun U hU hW => ⟨rfl, by rw [hU], by rw [hU]; exact hPc, kE_warm hW hE, hDc.weaken (fun _ _ _ _ => trivial)⟩⟩ rfl rfl hl.1 rfl (lv_room (Nat.le_of_ble_eq_true rfl)) dX11_same_44 ⟨Nat.le_of_ble_eq_true rfl, Nat.le_of_ble_eq_true rfl⟩) hS (fun q _ h => hFc q h) hFc (fun r1 u t H locs ht hvm w2 hB hz1 hk1 hS => ?_)
    obtain ⟨y3, hq4, hq5, hq6, hq7, hq8, hq9, hP1, hD1⟩ := hB
    try dsimp only at w2
    obtain ⟨hPa, hDa⟩ := hJn (w1 := [(m0, .inr (11, oX11 ra y3))]) hk1 ht hP1 hD1
    clear hP hD hPc hDc hFc hJn hP1 hD1 hk1
    have hP : va_P (dC, dI) vwCl [(ra 2, .inl (kI, 8, .inl q_told)), (ra 9, .inl (kI, 40, .inl q_to)), (m0, .inr (11, oX11 ra y3))] H := hPa
    have hD : va_D A [(ra 2, .inl (kI, 8, .inl q_told)), (ra 9, .inl (kI, 40, .inl q_to)), (m0, .inr (11, oX11 ra y3))] := hDa
    clear hPa hDa
    refine W.widen (k := 0) (n := 0) (Nat.le_of_ble_eq_true rfl) (Nat.le_of_ble_eq_true rfl) ?_
    obtain rfl : r1 = 0 := iv_one w2 (by decide)
    have hPD9 := cl_s (wc := [(m0, .inr (11, oX11 ra y3)), (ra 2, .inl (kI, 8, .inl q_told)), (ra 9, .inl (kI, 40, .inl q_to))]) hP hD [2, 0, 1] rfl (by decide +kernel)
    have hP9 := hPD9.1
    have hD9 := hPD9.2
    exact W.iret (v := 0) hx hb hr (fun t ht hW => ⟨⟨0, (), rfl, (iv_w ivk_0 (by decide) (by decide)), y3, hq4, (show y3 1 = x0 1 from hq6.trans (htp_42)), (show y3 10 = x0 10 from hq7.trans (hfp_42)), (show y3 11 = x0 11 from hq8.trans (hor_42)), (show y3 14 = x0 14 from hq9.trans (hirl_42)), by rw [ht]; exact hP9, hD9⟩, hS.F ht⟩) hS.2.2 dX11_same_47
  refine lv_aload_n hx hb dX11_same_0 rfl (lv_at hl 0 rfl) ?_
  refine lv_iconst (v := 0) hx hb dX11_same_1 ic_0 ?_
  refine va_put (D := (dC, dI)) (ci := 11) (v := .int 0) (ty := .int) (C := RX11) (T := TX11) (N := 61) hx hb hts hin11 tyX11 tyX11_ok nmX11 hown hK hP hD hS 0 rfl rfl 2 (by decide) hw_0 (fun _ h9 => h9) rfl (by decide +kernel) rfl rfl (Nat.le_of_ble_eq_true rfl) dX11_same_2 (fun H locs hPa hDa hS => ?_)
  clear hP hD
  have hP : va_P (dC, dI) vwCl [(m0, .inr (11, oX11 ra (upd x0 0 0))), (ra 2, .inl (kI, 8, .inl q_told)), (ra 9, .inl (kI, 40, .inl q_to))] H := hPa
  have hD : va_D A [(m0, .inr (11, oX11 ra (upd x0 0 0))), (ra 2, .inl (kI, 8, .inl q_told)), (ra 9, .inl (kI, 40, .inl q_to))] := hDa
  clear hPa hDa
  refine lv_aload_n hx hb dX11_same_5 rfl (lv_at hl 0 rfl) ?_
  refine lv_iload_n hx hb dX11_same_6 rfl (lv_at hl 1 rfl) ?_
  obtain ⟨hPc, hDc, hFc, hJn⟩ := cl_a (wc := [(m0, .inr (11, oX11 ra (upd x0 0 0))), (ra 2, .inl (kI, 8, .inl q_told))]) (wr := [(ra 9, .inl (kI, 40, .inl q_to))]) hP hD hS hA [0, 1] [2] rfl rfl (by decide +kernel)
  refine va_calli (va_runV (As := [.int p0]) (rest := []) ⟨hx, hb, hml, hown, hts⟩ (s11_isAddress l dC dI kB kI kJ kZ kC kS H.size m0 ra (upd x0 0 0) q_told p0 ((fI_u hX (k := 0) ((iv_w ivk_0 (by decide) (by decide))))) (hq_told)) (cwV 1 hts gX11_same_X11_isAddress rfl rfl rfl (by decide +kernel) ⟨Nat.le_of_ble_eq_true rfl, Nat.le_of_ble_eq_true rfl⟩) ⟨fun a U g mk q => by obtain ⟨q0, q1, qP, qE, qD⟩ := q; exact ⟨q0, q1, qP, kE_call qE, qD⟩, va_recv hK hP (ci := 11) (q0 := 0) rfl rfl, fun U hU hW => ⟨rfl, by rw [hU], by rw [hU]; exact hPc, kE_warm hW hE, hDc.weaken (fun _ _ _ _ => trivial)⟩⟩ rfl rfl hl.1 rfl (lv_room (Nat.le_of_ble_eq_true rfl)) dX11_same_7 ⟨Nat.le_of_ble_eq_true rfl, Nat.le_of_ble_eq_true rfl⟩) hS (fun q _ h => hFc q h) hFc (fun r10 u t H locs ht hvm w11 hB hz1 hk1 hS => ?_)
  obtain ⟨hP1, hD1⟩ := hB
  try dsimp only at w11
  obtain ⟨hPa, hDa⟩ := hJn (w1 := [(m0, .inr (11, oX11 ra (upd x0 0 0))), (ra 2, .inl (kI, 8, .inl q_told))]) hk1 ht hP1 hD1
  clear hP hD hPc hDc hFc hJn hP1 hD1 hk1
  have hP : va_P (dC, dI) vwCl [(ra 9, .inl (kI, 40, .inl q_to)), (m0, .inr (11, oX11 ra (upd x0 0 0))), (ra 2, .inl (kI, 8, .inl q_told))] H := hPa
  have hD : va_D A [(ra 9, .inl (kI, 40, .inl q_to)), (m0, .inr (11, oX11 ra (upd x0 0 0))), (ra 2, .inl (kI, 8, .inl q_told))] := hDa
  clear hPa hDa
  refine W.widen (k := 0) (n := 0) (Nat.le_of_ble_eq_true rfl) (Nat.le_of_ble_eq_true rfl) ?_
  refine lv_if_eq (tgt := 42) hx hb dX11_same_10 rfl (fun c12 => ?_) (fun c12 => ?_)
  · have b13 : iv 0 0 r10 := iv_eqL c12 ivk_0
    have hPD9 := cl_s (wc := [(m0, .inr (11, oX11 ra (upd x0 0 0))), (ra 2, .inl (kI, 8, .inl q_told)), (ra 9, .inl (kI, 40, .inl q_to))]) hP hD [1, 2, 0] rfl (by decide +kernel)
    exact hJ42 (upd x0 0 0) _ _ _ ((fI_u hX (k := 0) ((iv_w ivk_0 (by decide) (by decide))))) (ivk_0) ((show x0 1 = x0 1 from rfl)) ((show x0 10 = x0 10 from rfl)) ((show x0 11 = x0 11 from rfl)) ((show x0 14 = x0 14 from rfl)) (hPD9.1) (hPD9.2) hS (lv_sub hl [0, 1, 2] rfl)
  · have b14 : iv 1 1 r10 := iv_neLo c12 w11.1 ivk_0 (by decide) (by decide)
    have b15 : iv 0 20 p0 := (w11.2).resolve_left (iv_ne b14 ivk_0 (by decide))
    refine lv_aload_n hx hb dX11_same_13 rfl (lv_at hl 0 rfl) ?_
    refine lv_iload_n hx hb dX11_same_14 rfl (lv_at hl 2 rfl) ?_
    obtain ⟨hPc, hDc, hFc, hJn⟩ := cl_a (wc := [(m0, .inr (11, oX11 ra (upd x0 0 0))), (ra 2, .inl (kI, 8, .inl q_told))]) (wr := [(ra 9, .inl (kI, 40, .inl q_to))]) hP hD hS hA [1, 2] [0] rfl rfl (by decide +kernel)
    refine va_calli (va_runV (As := [.int p1]) (rest := []) ⟨hx, hb, hml, hown, hts⟩ (s11_isAddress l dC dI kB kI kJ kZ kC kS H.size m0 ra (upd x0 0 0) q_told p1 ((fI_u hX (k := 0) ((iv_w ivk_0 (by decide) (by decide))))) (hq_told)) (cwV 1 hts gX11_same_X11_isAddress rfl rfl rfl (by decide +kernel) ⟨Nat.le_of_ble_eq_true rfl, Nat.le_of_ble_eq_true rfl⟩) ⟨fun a U g mk q => by obtain ⟨q0, q1, qP, qE, qD⟩ := q; exact ⟨q0, q1, qP, kE_call qE, qD⟩, va_recv hK hP (ci := 11) (q0 := 1) rfl rfl, fun U hU hW => ⟨rfl, by rw [hU], by rw [hU]; exact hPc, kE_warm hW hE, hDc.weaken (fun _ _ _ _ => trivial)⟩⟩ rfl rfl hl.1 rfl (lv_room (Nat.le_of_ble_eq_true rfl)) dX11_same_15 ⟨Nat.le_of_ble_eq_true rfl, Nat.le_of_ble_eq_true rfl⟩) hS (fun q _ h => hFc q h) hFc (fun r16 u t H locs ht hvm w17 hB hz1 hk1 hS => ?_)
    obtain ⟨hP1, hD1⟩ := hB
    try dsimp only at w17
    obtain ⟨hPa, hDa⟩ := hJn (w1 := [(m0, .inr (11, oX11 ra (upd x0 0 0))), (ra 2, .inl (kI, 8, .inl q_told))]) hk1 ht hP1 hD1
    clear hP hD hPc hDc hFc hJn hP1 hD1 hk1
    have hP : va_P (dC, dI) vwCl [(ra 9, .inl (kI, 40, .inl q_to)), (m0, .inr (11, oX11 ra (upd x0 0 0))), (ra 2, .inl (kI, 8, .inl q_told))] H := hPa
    have hD : va_D A [(ra 9, .inl (kI, 40, .inl q_to)), (m0, .inr (11, oX11 ra (upd x0 0 0))), (ra 2, .inl (kI, 8, .inl q_told))] := hDa
    clear hPa hDa
    refine W.widen (k := 0) (n := 0) (Nat.le_of_ble_eq_true rfl) (Nat.le_of_ble_eq_true rfl) ?_
    refine lv_if_eq (tgt := 42) hx hb dX11_same_18 rfl (fun c18 => ?_) (fun c18 => ?_)
    · have b19 : iv 0 0 r16 := iv_eqL c18 ivk_0
      have hPD9 := cl_s (wc := [(m0, .inr (11, oX11 ra (upd x0 0 0))), (ra 2, .inl (kI, 8, .inl q_told)), (ra 9, .inl (kI, 40, .inl q_to))]) hP hD [1, 2, 0] rfl (by decide +kernel)
      exact hJ42 (upd x0 0 0) _ _ _ ((fI_u hX (k := 0) ((iv_w ivk_0 (by decide) (by decide))))) (ivk_0) ((show x0 1 = x0 1 from rfl)) ((show x0 10 = x0 10 from rfl)) ((show x0 11 = x0 11 from rfl)) ((show x0 14 = x0 14 from rfl)) (hPD9.1) (hPD9.2) hS (lv_sub hl [0, 1, 2] rfl)
    · have b20 : iv 1 1 r16 := iv_neLo c18 w17.1 ivk_0 (by decide) (by decide)
      have b21 : iv 0 20 p1 := (w17.2).resolve_left (iv_ne b20 ivk_0 (by decide))
      refine lv_aload_n hx hb dX11_same_21 rfl (lv_at hl 0 rfl) ?_
      refine lv_iload_n hx hb dX11_same_22 rfl (lv_at hl 1 rfl) ?_
      obtain ⟨hPc, hDc, hFc, hJn⟩ := cl_a (wc := [(m0, .inr (11, oX11 ra (upd x0 0 0))), (ra 9, .inl (kI, 40, .inl q_to))]) (wr := [(ra 2, .inl (kI, 8, .inl q_told))]) hP hD hS hA [1, 0] [2] rfl rfl (by decide +kernel)
      refine va_calli (va_runV (As := [.int p0]) (rest := []) ⟨hx, hb, hml, hown, hts⟩ (s11_routerOf l dC dI kB kI kJ kZ kC kS H.size m0 ra (upd x0 0 0) q_to p0 ((fI_u hX (k := 0) ((iv_w ivk_0 (by decide) (by decide))))) (hq_to) ((iv_w b15 (by decide) (by decide)))) (cwV 1 hts gX11_same_X11_routerOf rfl rfl rfl (by decide +kernel) ⟨Nat.le_of_ble_eq_true rfl, Nat.le_of_ble_eq_true rfl⟩) ⟨fun a U g mk q => by obtain ⟨q0, q1, qP, qE, qD⟩ := q; exact ⟨q0, q1, qP, kE_call qE, qD⟩, va_recv hK hP (ci := 11) (q0 := 1) rfl rfl, fun U hU hW => ⟨rfl, by rw [hU], by rw [hU]; exact hPc, kE_warm hW hE, hDc.weaken (fun _ _ _ _ => trivial)⟩⟩ rfl rfl hl.1 rfl (lv_room (Nat.le_of_ble_eq_true rfl)) dX11_same_23 ⟨Nat.le_of_ble_eq_true rfl, Nat.le_of_ble_eq_true rfl⟩) hS (fun q _ h => hFc q h) hFc (fun r22 u t H locs ht hvm w23 hB hz1 hk1 hS => ?_)
      obtain ⟨hP1, hD1⟩ := hB
      try dsimp only at w23
      obtain ⟨hPa, hDa⟩ := hJn (w1 := [(m0, .inr (11, oX11 ra (upd x0 0 0))), (ra 9, .inl (kI, 40, .inl q_to))]) hk1 ht hP1 hD1
      clear hP hD hPc hDc hFc hJn hP1 hD1 hk1
      have hP : va_P (dC, dI) vwCl [(ra 2, .inl (kI, 8, .inl q_told)), (m0, .inr (11, oX11 ra (upd x0 0 0))), (ra 9, .inl (kI, 40, .inl q_to))] H := hPa
      have hD : va_D A [(ra 2, .inl (kI, 8, .inl q_told)), (m0, .inr (11, oX11 ra (upd x0 0 0))), (ra 9, .inl (kI, 40, .inl q_to))] := hDa
      clear hPa hDa
      refine W.widen (k := 0) (n := 0) (Nat.le_of_ble_eq_true rfl) (Nat.le_of_ble_eq_true rfl) ?_
      refine lv_aload_n hx hb dX11_same_26 rfl (lv_at hl 0 rfl) ?_
      refine lv_iload_n hx hb dX11_same_27 rfl (lv_at hl 2 rfl) ?_
      obtain ⟨hPc, hDc, hFc, hJn⟩ := cl_a (wc := [(m0, .inr (11, oX11 ra (upd x0 0 0))), (ra 9, .inl (kI, 40, .inl q_to))]) (wr := [(ra 2, .inl (kI, 8, .inl q_told))]) hP hD hS hA [1, 2] [0] rfl rfl (by decide +kernel)
      refine va_calli (va_runV (As := [.int p1]) (rest := [.int r22]) ⟨hx, hb, hml, hown, hts⟩ (s11_routerOf l dC dI kB kI kJ kZ kC kS H.size m0 ra (upd x0 0 0) q_to p1 ((fI_u hX (k := 0) ((iv_w ivk_0 (by decide) (by decide))))) (hq_to) ((iv_w b21 (by decide) (by decide)))) (cwV 1 hts gX11_same_X11_routerOf rfl rfl rfl (by decide +kernel) ⟨Nat.le_of_ble_eq_true rfl, Nat.le_of_ble_eq_true rfl⟩) ⟨fun a U g mk q => by obtain ⟨q0, q1, qP, qE, qD⟩ := q; exact ⟨q0, q1, qP, kE_call qE, qD⟩, va_recv hK hP (ci := 11) (q0 := 1) rfl rfl, fun U hU hW => ⟨rfl, by rw [hU], by rw [hU]; exact hPc, kE_warm hW hE, hDc.weaken (fun _ _ _ _ => trivial)⟩⟩ rfl rfl hl.1 rfl (lv_room (Nat.le_of_ble_eq_true rfl)) dX11_same_28 ⟨Nat.le_of_ble_eq_true rfl, Nat.le_of_ble_eq_true rfl⟩) hS (fun q _ h => hFc q h) hFc (fun r24 u t H locs ht hvm w25 hB hz1 hk1 hS => ?_)
      obtain ⟨hP1, hD1⟩ := hB
      try dsimp only at w25
      obtain ⟨hPa, hDa⟩ := hJn (w1 := [(m0, .inr (11, oX11 ra (upd x0 0 0))), (ra 9, .inl (kI, 40, .inl q_to))]) hk1 ht hP1 hD1
      clear hP hD hPc hDc hFc hJn hP1 hD1 hk1
      have hP : va_P (dC, dI) vwCl [(ra 2, .inl (kI, 8, .inl q_told)), (m0, .inr (11, oX11 ra (upd x0 0 0))), (ra 9, .inl (kI, 40, .inl q_to))] H := hPa
      have hD : va_D A [(ra 2, .inl (kI, 8, .inl q_told)), (m0, .inr (11, oX11 ra (upd x0 0 0))), (ra 9, .inl (kI, 40, .inl q_to))] := hDa
      clear hPa hDa
      refine W.widen (k := 0) (n := 0) (Nat.le_of_ble_eq_true rfl) (Nat.le_of_ble_eq_true rfl) ?_
      refine lv_icmp_ne (tgt := 38) hx hb dX11_same_31 rfl (fun c26 => ?_) (fun c26 => ?_)
      · refine lv_iconst (v := 0) hx hb dX11_same_38 ic_0 ?_
        refine lv_goto (tgt := 47) hx hb dX11_same_39 rfl ?_
        have hPD9 := cl_s (wc := [(m0, .inr (11, oX11 ra (upd x0 0 0))), (ra 2, .inl (kI, 8, .inl q_told)), (ra 9, .inl (kI, 40, .inl q_to))]) hP hD [1, 0, 2] rfl (by decide +kernel)
        have hP9 := hPD9.1
        have hD9 := hPD9.2
        exact W.iret (v := 0) hx hb hr (fun t ht hW => ⟨⟨0, (), rfl, (iv_w ivk_0 (by decide) (by decide)), upd x0 0 0, (fI_u hX (k := 0) ((iv_w ivk_0 (by decide) (by decide)))), (show x0 1 = x0 1 from rfl), (show x0 10 = x0 10 from rfl), (show x0 11 = x0 11 from rfl), (show x0 14 = x0 14 from rfl), by rw [ht]; exact hP9, hD9⟩, hS.F ht⟩) hS.2.2 dX11_same_47
      · refine lv_iconst (v := 1) hx hb dX11_same_34 ic_1 ?_
        refine lv_goto (tgt := 47) hx hb dX11_same_35 rfl ?_
        have hPD9 := cl_s (wc := [(m0, .inr (11, oX11 ra (upd x0 0 0))), (ra 2, .inl (kI, 8, .inl q_told)), (ra 9, .inl (kI, 40, .inl q_to))]) hP hD [1, 0, 2] rfl (by decide +kernel)
        have hP9 := hPD9.1
        have hD9 := hPD9.2
        exact W.iret (v := 1) hx hb hr (fun t ht hW => ⟨⟨1, (), rfl, (iv_w ivk_1 (by decide) (by decide)), upd x0 0 0, (fI_u hX (k := 0) ((iv_w ivk_0 (by decide) (by decide)))), (show x0 1 = x0 1 from rfl), (show x0 10 = x0 10 from rfl), (show x0 11 = x0 11 from rfl), (show x0 14 = x0 14 from rfl), by rw [ht]; exact hP9, hD9⟩, hS.F ht⟩) hS.2.2 dX11_same_47
def rm_s11_port : Room := { frames := 4, cells := 0, slots := 0, locals := 102 }
set_option maxHeartbeats 4000000 in
set_option maxRecDepth 100000 in
theorem s11_port (l : Launch) (dC : Nat → ClassId) (dI : Nat → Nat → Nat) (kB kI kJ kZ kC kS : ClassId) (sz : Nat) (m0 : Nat) (ra : Nat → Nat) (x0 : Nat → Int32) (q_told : Nat → Int32) (q_kind : Nat → Int32) (q_salt : Nat → Int32) (q_from : Nat → Int32) (q_to : Nat → Int32) (q_goal : Nat → Int32) (q_now : Nat → Int32) (q_reach : Nat → Int32) (p0 : Int32) (p1 : Int32) (hX : fI lX11 hX11 x0) (hq_told : fI lTold hTold q_told) (hq_salt : fI (fun _ => 0) (fun _ => 15) q_salt) (hq_from : fI (fun _ => 0) (fun _ => 11) q_from) (hq_to : fI (fun _ => 0) (fun _ => 11) q_to) (hq_goal : fI (fun _ => 0) (fun _ => 11) q_goal) (hq_now : fI lNow hNow q_now) (hLT : ∀ j : Nat, (j : Int) < (q_told 1).toInt → (q_from j).toInt < (q_to j).toInt) : Met l yX11_port wsX11_port rm_s11_port (va_Pc [.ref m0, .int p0, .int p1] (fun U => U.heap.size = sz ∧ va_P (dC, dI) vwCl [(m0, .inr (11, oX11 ra x0)), (ra 2, .inl (kI, 8, .inl q_told)), (ra 3, .inl (kI, 24, .inl q_kind)), (ra 4, .inl (kI, 24, .inl q_salt)), (ra 8, .inl (kI, 40, .inl q_from)), (ra 9, .inl (kI, 40, .inl q_to)), (ra 10, .inl (kI, 6, .inl q_goal)), (ra 11, .inl (kI, 1019, .inl q_now)), (ra 14, .inl (kI, 12, .inl q_reach))] U.heap ∧ kE dC dI kB kI kJ kZ kC kS U ∧ va_D (fun _ => True) [(m0, .inr (11, oX11 ra x0)), (ra 2, .inl (kI, 8, .inl q_told)), (ra 3, .inl (kI, 24, .inl q_kind)), (ra 4, .inl (kI, 24, .inl q_salt)), (ra 8, .inl (kI, 40, .inl q_from)), (ra 9, .inl (kI, 40, .inl q_to)), (ra 10, .inl (kI, 6, .inl q_goal)), (ra 11, .inl (kI, 1019, .inl q_now)), (ra 14, .inl (kI, 12, .inl q_reach))])) (va_Qi (fun (r : Int32) (_ : Unit) => iv (-1) 31 r) (fun _ t => ∃ (x0' : Nat → Int32) (q_now' : Nat → Int32), fI lX11 hX11 x0' ∧ fI lNow hNow q_now' ∧ (x0' 1 = x0 1) ∧ (x0' 10 = x0 10) ∧ (x0' 11 = x0 11) ∧ (x0' 14 = x0 14) ∧ va_P (dC, dI) vwCl [(m0, .inr (11, oX11 ra x0')), (ra 2, .inl (kI, 8, .inl q_told)), (ra 3, .inl (kI, 24, .inl q_kind)), (ra 4, .inl (kI, 24, .inl q_salt)), (ra 8, .inl (kI, 40, .inl q_from)), (ra 9, .inl (kI, 40, .inl q_to)), (ra 10, .inl (kI, 6, .inl q_goal)), (ra 11, .inl (kI, 1019, .inl q_now')), (ra 14, .inl (kI, 12, .inl q_reach))] t.heap ∧ va_D (va_A [(m0, .inr (11, oX11 ra x0)), (ra 2, .inl (kI, 8, .inl q_told)), (ra 3, .inl (kI, 24, .inl q_kind)), (ra 4, .inl (kI, 24, .inl q_salt)), (ra 8, .inl (kI, 40, .inl q_from)), (ra 9, .inl (kI, 40, .inl q_to)), (ra 10, .inl (kI, 6, .inl q_goal)), (ra 11, .inl (kI, 1019, .inl q_now)), (ra 14, .inl (kI, 12, .inl q_reach))] sz) [(m0, .inr (11, oX11 ra x0')), (ra 2, .inl (kI, 8, .inl q_told)), (ra 3, .inl (kI, 24, .inl q_kind)), (ra 4, .inl (kI, 24, .inl q_salt)), (ra 8, .inl (kI, 40, .inl q_from)), (ra 9, .inl (kI, 40, .inl q_to)), (ra 10, .inl (kI, 6, .inl q_goal)), (ra 11, .inl (kI, 1019, .inl q_now')), (ra 14, .inl (kI, 12, .inl q_reach))]) (va_A [(m0, .inr (11, oX11 ra x0)), (ra 2, .inl (kI, 8, .inl q_told)), (ra 3, .inl (kI, 24, .inl q_kind)), (ra 4, .inl (kI, 24, .inl q_salt)), (ra 8, .inl (kI, 40, .inl q_from)), (ra 9, .inl (kI, 40, .inl q_to)), (ra 10, .inl (kI, 6, .inl q_goal)), (ra 11, .inl (kI, 1019, .inl q_now)), (ra 14, .inl (kI, 12, .inl q_reach))] sz)) 0 0 (va_A [(m0, .inr (11, oX11 ra x0)), (ra 2, .inl (kI, 8, .inl q_told)), (ra 3, .inl (kI, 24, .inl q_kind)), (ra 4, .inl (kI, 24, .inl q_salt)), (ra 8, .inl (kI, 40, .inl q_from)), (ra 9, .inl (kI, 40, .inl q_to)), (ra 10, .inl (kI, 6, .inl q_goal)), (ra 11, .inl (kI, 1019, .inl q_now)), (ra 14, .inl (kI, 12, .inl q_reach))] sz) := by
  refine Met.ofW (cc := cX11_port) (maxL := 4) (ret := (some .int)) (by decide) rfl ?_
  intro p e s m args0 below meth c s₁ B hml hv
  obtain ⟨hargs, hsz, hP, hE, hD0⟩ := hv
  have hx := B.exec
  have hb := B.bytes
  have hr := B.returns
  have hts := atoms_spec (ws := wsX11_port) B.pre
  have hown : s.vm.findClass RX11 = some m.cls := findClass_of_methodNamed B.named
  have hlocks := B.notSynchronized
  have hK := hE.1
  have hin11 : ∀ w ∈ wsX110, w ∈ wsX11_port := fun _ h9 => List.mem_cons_of_mem _ (List.mem_append_right _ h9)
  have hw_0 := hts (.fieldLink RX11 440 "PathProberModel" "wayLinks" "I") (List.mem_of_getElem? (i := 2) rfl)
  have hw_1 := hts (.fieldLink RX11 142 "PathProberModel" "code" "I") (List.mem_of_getElem? (i := 1) rfl)
  subst hsz
  have hD := hD0.self (sz := s.heap.size)
  generalize hAe : va_A [(m0, .inr (11, oX11 ra x0)), (ra 2, .inl (kI, 8, .inl q_told)), (ra 3, .inl (kI, 24, .inl q_kind)), (ra 4, .inl (kI, 24, .inl q_salt)), (ra 8, .inl (kI, 40, .inl q_from)), (ra 9, .inl (kI, 40, .inl q_to)), (ra 10, .inl (kI, 6, .inl q_goal)), (ra 11, .inl (kI, 1019, .inl q_now)), (ra 14, .inl (kI, 12, .inl q_reach))] s.heap.size = A at hD ⊢
  have hA : ∀ q : Nat, s.heap.size ≤ q → A q := fun q h => by rw [← hAe]; exact Or.inr h
  have hS : va_S A s.heap s.heap [] := va_S.rf
  have hP : va_P (dC, dI) vwCl [(m0, .inr (11, oX11 ra x0)), (ra 2, .inl (kI, 8, .inl q_told)), (ra 3, .inl (kI, 24, .inl q_kind)), (ra 4, .inl (kI, 24, .inl q_salt)), (ra 8, .inl (kI, 40, .inl q_from)), (ra 9, .inl (kI, 40, .inl q_to)), (ra 10, .inl (kI, 6, .inl q_goal)), (ra 11, .inl (kI, 1019, .inl q_now)), (ra 14, .inl (kI, 12, .inl q_reach))] s.heap := hP
  have hl := lv_entry ([.ref m0, .int p0, .int p1]) (n := 4) (Nat.le_of_ble_eq_true rfl)
  have hla : entryFrame m args0 4 = entryFrame m ([.ref m0, .int p0, .int p1] : List Value).toArray 4 := by rw [hargs]
  rw [hla, lg_entry_eq]
  generalize (lg_sl ([.ref m0, .int p0, .int p1]) ++ List.replicate (4 - (lg_sl ([.ref m0, .int p0, .int p1])).length) Slot.unset).toArray = ls at hl ⊢
  have hl : lv_has ls 4 [(0, .ref m0), (1, .int p0), (2, .int p1)] := hl
  have hJ27 : ∀ (y27_0 : Nat → Int32) (H : Heap) (locs : List Loc) (ls : Array Slot), fI lX11 hX11 y27_0 → iv 0 0 (y27_0 0) → (y27_0 1 = x0 1) → (y27_0 10 = x0 10) → (y27_0 11 = x0 11) → (y27_0 14 = x0 14) → va_P (dC, dI) vwCl [(m0, .inr (11, oX11 ra y27_0)), (ra 2, .inl (kI, 8, .inl q_told)), (ra 3, .inl (kI, 24, .inl q_kind)), (ra 4, .inl (kI, 24, .inl q_salt)), (ra 8, .inl (kI, 40, .inl q_from)), (ra 9, .inl (kI, 40, .inl q_to)), (ra 10, .inl (kI, 6, .inl q_goal)), (ra 11, .inl (kI, 1019, .inl q_now)), (ra 14, .inl (kI, 12, .inl q_reach))] H → va_D A [(m0, .inr (11, oX11 ra y27_0)), (ra 2, .inl (kI, 8, .inl q_told)), (ra 3, .inl (kI, 24, .inl q_kind)), (ra 4, .inl (kI, 24, .inl q_salt)), (ra 8, .inl (kI, 40, .inl q_from)), (ra 9, .inl (kI, 40, .inl q_to)), (ra 10, .inl (kI, 6, .inl q_goal)), (ra 11, .inl (kI, 1019, .inl q_now)), (ra 14, .inl (kI, 12, .inl q_reach))] → va_S A s.heap H locs → lv_has ls 4 [(0, .ref m0), (1, .int p0), (2, .int p1)] → W p l e (headSpec wsX11_port rm_s11_port).room s m args0 below meth c H locs (0) (0) (MQ below (va_Qi (fun (r : Int32) (_ : Unit) => iv (-1) 31 r) (fun _ t => ∃ (x0' : Nat → Int32) (q_now' : Nat → Int32), fI lX11 hX11 x0' ∧ fI lNow hNow q_now' ∧ (x0' 1 = x0 1) ∧ (x0' 10 = x0 10) ∧ (x0' 11 = x0 11) ∧ (x0' 14 = x0 14) ∧ va_P (dC, dI) vwCl [(m0, .inr (11, oX11 ra x0')), (ra 2, .inl (kI, 8, .inl q_told)), (ra 3, .inl (kI, 24, .inl q_kind)), (ra 4, .inl (kI, 24, .inl q_salt)), (ra 8, .inl (kI, 40, .inl q_from)), (ra 9, .inl (kI, 40, .inl q_to)), (ra 10, .inl (kI, 6, .inl q_goal)), (ra 11, .inl (kI, 1019, .inl q_now')), (ra 14, .inl (kI, 12, .inl q_reach))] t.heap ∧ va_D A [(m0, .inr (11, oX11 ra x0')), (ra 2, .inl (kI, 8, .inl q_told)), (ra 3, .inl (kI, 24, .inl q_kind)), (ra 4, .inl (kI, 24, .inl q_salt)), (ra 8, .inl (kI, 40, .inl q_from)), (ra 9, .inl (kI, 40, .inl q_to)), (ra 10, .inl (kI, 6, .inl q_goal)), (ra 11, .inl (kI, 1019, .inl q_now')), (ra 14, .inl (kI, 12, .inl q_reach))]) A) args0 s 0 0 A) (F0 m 27 ls []) := by
    intro y27_0 H locs ls hI27_0 h27_2 htp_27 hfp_27 hor_27 hirl_27 hP hD hS hl
    refine lv_aload_n hx hb dX11_port_27 rfl (lv_at hl 0 rfl) ?_
    refine lv_iconst (v := 1) hx hb dX11_port_28 ic_1 ?_
    obtain ⟨hPc, hDc, hFc, hJn⟩ := cl_a (wc := [(m0, .inr (11, oX11 ra y27_0))]) (wr := [(ra 2, .inl (kI, 8, .inl q_told)), (ra 3, .inl (kI, 24, .inl q_kind)), (ra 4, .inl (kI, 24, .inl q_salt)), (ra 8, .inl (kI, 40, .inl q_from)), (ra 9, .inl (kI, 40, .inl q_to)), (ra 10, .inl (kI, 6, .inl q_goal)), (ra 11, .inl (kI, 1019, .inl q_now)), (ra 14, .inl (kI, 12, .inl q_reach))]) hP hD hS hA [0] [1, 2, 3, 4, 5, 6, 7, 8] rfl rfl (by decide +kernel)
    refine va_calli (va_runV (As := [.int 1]) (rest := []) ⟨hx, hb, hml, hown, hts⟩ (s11_fail l dC dI kB kI kJ kZ kC kS H.size m0 ra y27_0 1 (hI27_0)) (cwV 1 hts gX11_port_X11_fail rfl rfl rfl (by decide +kernel) ⟨Nat.le_of_ble_eq_true rfl, Nat.le_of_ble_eq_true rfl⟩) ⟨fun a U g mk q => by obtain ⟨q0, q1, qP, qE, qD⟩ := q; exact ⟨q0, q1, qP, kE_call qE, qD⟩, va_recv hK hP (ci := 11) (q0 := 0) rfl rfl, fun U hU hW => ⟨rfl, by rw [hU], by rw [hU]; exact hPc, kE_warm hW hE, hDc.weaken (fun _ _ _ _ => trivial)⟩⟩ rfl rfl hl.1 rfl (lv_room (Nat.le_of_ble_eq_true rfl)) dX11_port_29 ⟨Nat.le_of_ble_eq_true rfl, Nat.le_of_ble_eq_true rfl⟩) hS (fun q _ h => hFc q h) hFc (fun r1 u t H locs ht hvm w2 hB hz1 hk1 hS => ?_)
    obtain ⟨y3, hq4, hq5, hq6, hq7, hq8, hq9, hP1, hD1⟩ := hB
    try dsimp only at w2
    obtain ⟨hPa, hDa⟩ := hJn (w1 := [(m0, .inr (11, oX11 ra y3))]) hk1 ht hP1 hD1
    clear hP hD hPc hDc hFc hJn hP1 hD1 hk1
    have hP : va_P (dC, dI) vwCl [(ra 2, .inl (kI, 8, .inl q_told)), (ra 3, .inl (kI, 24, .inl q_kind)), (ra 4, .inl (kI, 24, .inl q_salt)), (ra 8, .inl (kI, 40, .inl q_from)), (ra 9, .inl (kI, 40, .inl q_to)), (ra 10, .inl (kI, 6, .inl q_goal)), (ra 11, .inl (kI, 1019, .inl q_now)), (ra 14, .inl (kI, 12, .inl q_reach)), (m0, .inr (11, oX11 ra y3))] H := hPa
    have hD : va_D A [(ra 2, .inl (kI, 8, .inl q_told)), (ra 3, .inl (kI, 24, .inl q_kind)), (ra 4, .inl (kI, 24, .inl q_salt)), (ra 8, .inl (kI, 40, .inl q_from)), (ra 9, .inl (kI, 40, .inl q_to)), (ra 10, .inl (kI, 6, .inl q_goal)), (ra 11, .inl (kI, 1019, .inl q_now)), (ra 14, .inl (kI, 12, .inl q_reach)), (m0, .inr (11, oX11 ra y3))] := hDa
    clear hPa hDa
    refine W.widen (k := 0) (n := 0) (Nat.le_of_ble_eq_true rfl) (Nat.le_of_ble_eq_true rfl) ?_
    obtain rfl : r1 = 0 := iv_one w2 (by decide)
    have hPD9 := cl_s (wc := [(m0, .inr (11, oX11 ra y3)), (ra 2, .inl (kI, 8, .inl q_told)), (ra 3, .inl (kI, 24, .inl q_kind)), (ra 4, .inl (kI, 24, .inl q_salt)), (ra 8, .inl (kI, 40, .inl q_from)), (ra 9, .inl (kI, 40, .inl q_to)), (ra 10, .inl (kI, 6, .inl q_goal)), (ra 11, .inl (kI, 1019, .inl q_now)), (ra 14, .inl (kI, 12, .inl q_reach))]) hP hD [8, 0, 1, 2, 3, 4, 5, 6, 7] rfl (by decide +kernel)
    have hP9 := hPD9.1
    have hD9 := hPD9.2
    exact W.iret (v := 0) hx hb hr (fun t ht hW => ⟨⟨0, (), rfl, (iv_w ivk_0 (by decide) (by decide)), y3, q_now, hq4, hq_now, (show y3 1 = x0 1 from hq6.trans (htp_27)), (show y3 10 = x0 10 from hq7.trans (hfp_27)), (show y3 11 = x0 11 from hq8.trans (hor_27)), (show y3 14 = x0 14 from hq9.trans (hirl_27)), by rw [ht]; exact hP9, hD9⟩, hS.F ht⟩) hS.2.2 dX11_port_32
  have hJ35 : ∀ (n : Nat) (y35_0 : Nat → Int32) (g35_7 : Nat → Int32) (v35_loc3 : Int32) (H : Heap) (locs : List Loc) (ls : Array Slot), (32 - v35_loc3.toInt).toNat < n → fI lX11 hX11 y35_0 → fI lNow hNow g35_7 → iv 0 2 p0 → iv 0 19 p1 → iv 0 32 v35_loc3 → (y35_0 1 = x0 1) → (y35_0 10 = x0 10) → (y35_0 11 = x0 11) → (y35_0 14 = x0 14) → va_P (dC, dI) vwCl [(m0, .inr (11, oX11 ra y35_0)), (ra 2, .inl (kI, 8, .inl q_told)), (ra 3, .inl (kI, 24, .inl q_kind)), (ra 4, .inl (kI, 24, .inl q_salt)), (ra 8, .inl (kI, 40, .inl q_from)), (ra 9, .inl (kI, 40, .inl q_to)), (ra 10, .inl (kI, 6, .inl q_goal)), (ra 11, .inl (kI, 1019, .inl g35_7)), (ra 14, .inl (kI, 12, .inl q_reach))] H → va_D A [(m0, .inr (11, oX11 ra y35_0)), (ra 2, .inl (kI, 8, .inl q_told)), (ra 3, .inl (kI, 24, .inl q_kind)), (ra 4, .inl (kI, 24, .inl q_salt)), (ra 8, .inl (kI, 40, .inl q_from)), (ra 9, .inl (kI, 40, .inl q_to)), (ra 10, .inl (kI, 6, .inl q_goal)), (ra 11, .inl (kI, 1019, .inl g35_7)), (ra 14, .inl (kI, 12, .inl q_reach))] → va_S A s.heap H locs → lv_has ls 4 [(0, .ref m0), (1, .int p0), (2, .int p1), (3, .int v35_loc3)] → W p l e (headSpec wsX11_port rm_s11_port).room s m args0 below meth c H locs (0) (0) (MQ below (va_Qi (fun (r : Int32) (_ : Unit) => iv (-1) 31 r) (fun _ t => ∃ (x0' : Nat → Int32) (q_now' : Nat → Int32), fI lX11 hX11 x0' ∧ fI lNow hNow q_now' ∧ (x0' 1 = x0 1) ∧ (x0' 10 = x0 10) ∧ (x0' 11 = x0 11) ∧ (x0' 14 = x0 14) ∧ va_P (dC, dI) vwCl [(m0, .inr (11, oX11 ra x0')), (ra 2, .inl (kI, 8, .inl q_told)), (ra 3, .inl (kI, 24, .inl q_kind)), (ra 4, .inl (kI, 24, .inl q_salt)), (ra 8, .inl (kI, 40, .inl q_from)), (ra 9, .inl (kI, 40, .inl q_to)), (ra 10, .inl (kI, 6, .inl q_goal)), (ra 11, .inl (kI, 1019, .inl q_now')), (ra 14, .inl (kI, 12, .inl q_reach))] t.heap ∧ va_D A [(m0, .inr (11, oX11 ra x0')), (ra 2, .inl (kI, 8, .inl q_told)), (ra 3, .inl (kI, 24, .inl q_kind)), (ra 4, .inl (kI, 24, .inl q_salt)), (ra 8, .inl (kI, 40, .inl q_from)), (ra 9, .inl (kI, 40, .inl q_to)), (ra 10, .inl (kI, 6, .inl q_goal)), (ra 11, .inl (kI, 1019, .inl q_now')), (ra 14, .inl (kI, 12, .inl q_reach))]) A) args0 s 0 0 A) (F0 m 35 ls []) := by
    intro n
    induction n with
    | zero => intro y35_0 g35_7 v35_loc3 H locs ls hm35; exact absurd hm35 (Nat.not_lt_zero _)
    | succ n ih35 =>
      intro y35_0 g35_7 v35_loc3 H locs ls hm35 hI35_0 hI35_7 h35_3 h35_4 h35_5 htp_35 hfp_35 hor_35 hirl_35 hP hD hS hl
      refine lv_iload_n hx hb dX11_port_35 rfl (lv_at hl 3 rfl) ?_
      refine lv_bipush (v := 32) hx hb dX11_port_36 bp_32 ?_
      refine lv_icmp_ge (tgt := 67) hx hb dX11_port_38 rfl (fun c10 => ?_) (fun c10 => ?_)
      · have b11 : iv 32 32 v35_loc3 := iv_leR c10 ivk_32 h35_5 (by decide) (by decide)
        refine lv_iconst (v := (-1)) hx hb dX11_port_67 ic_m1 ?_
        have hP9 := hP
        have hD9 := hD
        exact W.iret (v := (-1)) hx hb hr (fun t ht hW => ⟨⟨(-1), (), rfl, (iv_w ivk_m1 (by decide) (by decide)), y35_0, g35_7, hI35_0, hI35_7, (show y35_0 1 = x0 1 from htp_35), (show y35_0 10 = x0 10 from hfp_35), (show y35_0 11 = x0 11 from hor_35), (show y35_0 14 = x0 14 from hirl_35), by rw [ht]; exact hP9, hD9⟩, hS.F ht⟩) hS.2.2 dX11_port_68
      · have b12 : iv 0 31 v35_loc3 := iv_ltL (Int32.not_le.mp c10) h35_5 ivk_32 (by decide) (by decide)
        refine lv_aload_n hx hb dX11_port_41 rfl (lv_at hl 0 rfl) ?_
        refine lv_iload_n hx hb dX11_port_42 rfl (lv_at hl 3 rfl) ?_
        refine lv_iload_n hx hb dX11_port_43 rfl (lv_at hl 1 rfl) ?_
        obtain ⟨hPc, hDc, hFc, hJn⟩ := cl_a (wc := [(m0, .inr (11, oX11 ra y35_0)), (ra 2, .inl (kI, 8, .inl q_told)), (ra 3, .inl (kI, 24, .inl q_kind)), (ra 4, .inl (kI, 24, .inl q_salt)), (ra 8, .inl (kI, 40, .inl q_from)), (ra 9, .inl (kI, 40, .inl q_to)), (ra 10, .inl (kI, 6, .inl q_goal)), (ra 11, .inl (kI, 1019, .inl g35_7)), (ra 14, .inl (kI, 12, .inl q_reach))]) (wr := []) hP hD hS hA [0, 1, 2, 3, 4, 5, 6, 7, 8] [] rfl rfl (by decide +kernel)
        refine va_callv (va_runV (As := [.int v35_loc3, .int p0]) (rest := []) ⟨hx, hb, hml, hown, hts⟩ (s11_wholeWay l dC dI kB kI kJ kZ kC kS H.size m0 ra y35_0 q_told q_kind q_salt q_from q_to q_goal g35_7 q_reach v35_loc3 p0 (hI35_0) (hq_told) (hq_salt) (hq_from) (hq_to) (hq_goal) (hI35_7) (b12) (h35_3) (hLT)) (cwV 2 hts gX11_port_X11_wholeWay rfl rfl rfl (by decide +kernel) ⟨Nat.le_of_ble_eq_true rfl, Nat.le_of_ble_eq_true rfl⟩) ⟨fun a U g mk q => by obtain ⟨q0, q1, qP, qE, qD⟩ := q; exact ⟨q0, q1, qP, kE_call qE, qD⟩, va_recv hK hP (ci := 11) (q0 := 0) rfl rfl, fun U hU hW => ⟨rfl, by rw [hU], by rw [hU]; exact hPc, kE_warm hW hE, hDc.weaken (fun _ _ _ _ => trivial)⟩⟩ rfl rfl hl.1 rfl (lv_room (Nat.le_of_ble_eq_true rfl)) dX11_port_44 ⟨Nat.le_of_ble_eq_true rfl, Nat.le_of_ble_eq_true rfl⟩) hS (fun q _ h => hFc q h) hFc (fun u t H locs ht hvm w14 hB hz1 hk1 hS => ?_)
        obtain ⟨y15, f16, hq17, hq18, hq19, hq20, hq21, hq22, hP1, hD1⟩ := hB
        try dsimp only at w14
        obtain ⟨hPa, hDa⟩ := hJn (w1 := [(m0, .inr (11, oX11 ra y15)), (ra 2, .inl (kI, 8, .inl q_told)), (ra 3, .inl (kI, 24, .inl q_kind)), (ra 4, .inl (kI, 24, .inl q_salt)), (ra 8, .inl (kI, 40, .inl q_from)), (ra 9, .inl (kI, 40, .inl q_to)), (ra 10, .inl (kI, 6, .inl q_goal)), (ra 11, .inl (kI, 1019, .inl f16)), (ra 14, .inl (kI, 12, .inl q_reach))]) hk1 ht hP1 hD1
        clear hP hD hPc hDc hFc hJn hP1 hD1 hk1
        have hP : va_P (dC, dI) vwCl [(m0, .inr (11, oX11 ra y15)), (ra 2, .inl (kI, 8, .inl q_told)), (ra 3, .inl (kI, 24, .inl q_kind)), (ra 4, .inl (kI, 24, .inl q_salt)), (ra 8, .inl (kI, 40, .inl q_from)), (ra 9, .inl (kI, 40, .inl q_to)), (ra 10, .inl (kI, 6, .inl q_goal)), (ra 11, .inl (kI, 1019, .inl f16)), (ra 14, .inl (kI, 12, .inl q_reach))] H := hPa
        have hD : va_D A [(m0, .inr (11, oX11 ra y15)), (ra 2, .inl (kI, 8, .inl q_told)), (ra 3, .inl (kI, 24, .inl q_kind)), (ra 4, .inl (kI, 24, .inl q_salt)), (ra 8, .inl (kI, 40, .inl q_from)), (ra 9, .inl (kI, 40, .inl q_to)), (ra 10, .inl (kI, 6, .inl q_goal)), (ra 11, .inl (kI, 1019, .inl f16)), (ra 14, .inl (kI, 12, .inl q_reach))] := hDa
        clear hPa hDa
        refine W.widen (k := 0) (n := 0) (Nat.le_of_ble_eq_true rfl) (Nat.le_of_ble_eq_true rfl) ?_
        refine lv_aload_n hx hb dX11_port_47 rfl (lv_at hl 0 rfl) ?_
        refine va_get (D := (dC, dI)) (ci := 11) (v := .int (y15 19)) (C := RX11) (T := TX11) (N := 61) hx hb hts hin11 hown hK hP 0 rfl rfl 41 (Nat.le_of_ble_eq_true rfl) hw_0 (fun _ h9 => h9) rfl dX11_port_48 ?_
        refine lv_iload_n hx hb dX11_port_51 rfl (lv_at hl 2 rfl) ?_
        refine lv_ishr hx hb dX11_port_52 ?_
        refine lv_topi (fun z23 _ => ?_)
        refine lv_iconst (v := 1) hx hb dX11_port_53 ic_1 ?_
        refine lv_iand hx hb dX11_port_54 ?_
        refine iv_top (a := 0) (b := 1) (iv_and (m := 1) (by decide) (by decide) (by decide)) (fun z24 b25 => ?_)
        refine lv_iconst (v := 1) hx hb dX11_port_55 ic_1 ?_
        refine lv_icmp_ne (tgt := 61) hx hb dX11_port_56 rfl (fun c26 => ?_) (fun c26 => ?_)
        · have b27 : iv 0 0 z24 := iv_neHi c26 b25 ivk_1 (by decide) (by decide)
          refine lv_iinc (v := v35_loc3 + Int32.ofInt 1) (lv' := [(3, .int (v35_loc3 + Int32.ofInt 1)), (0, .ref m0), (1, .int p0), (2, .int p1)]) hx hb dX11_port_61 hl (k := 3) rfl (rfl) (Nat.le_of_ble_eq_true rfl) rfl (fun ls hl => ?_)
          have b28 : iv 1 32 (v35_loc3 + Int32.ofInt 1) := iv_add b12 ivo_1 (by decide) (by decide) (by decide) (by decide)
          refine lv_goto (tgt := 35) hx hb dX11_port_64 rfl ?_
          exact ih35 y15 f16 (v35_loc3 + Int32.ofInt 1) _ _ _ (ms_up (c := 1) (d := 0) b12 hm35 (by decide) (iv_inc 1 b12 (by decide) (by decide) (by decide) (by decide)) (by decide) rfl) (hq17) (hq18) (h35_3) (h35_4) ((iv_w b28 (by decide) (by decide))) ((show y15 1 = x0 1 from hq19.trans (htp_35))) ((show y15 10 = x0 10 from hq20.trans (hfp_35))) ((show y15 11 = x0 11 from hq21.trans (hor_35))) ((show y15 14 = x0 14 from hq22.trans (hirl_35))) (hP) (hD) hS (lv_sub hl [1, 2, 3, 0] rfl)
        · have b29 : iv 1 1 z24 := iv_eqL c26 ivk_1
          refine lv_iload_n hx hb dX11_port_59 rfl (lv_at hl 3 rfl) ?_
          have hP9 := hP
          have hD9 := hD
          exact W.iret (v := v35_loc3) hx hb hr (fun t ht hW => ⟨⟨v35_loc3, (), rfl, (iv_w b12 (by decide) (by decide)), y15, f16, hq17, hq18, (show y15 1 = x0 1 from hq19.trans (htp_35)), (show y15 10 = x0 10 from hq20.trans (hfp_35)), (show y15 11 = x0 11 from hq21.trans (hor_35)), (show y15 14 = x0 14 from hq22.trans (hirl_35)), by rw [ht]; exact hP9, hD9⟩, hS.F ht⟩) hS.2.2 dX11_port_60
  refine lv_aload_n hx hb dX11_port_0 rfl (lv_at hl 0 rfl) ?_
  refine lv_iconst (v := 0) hx hb dX11_port_1 ic_0 ?_
  refine va_put (D := (dC, dI)) (ci := 11) (v := .int 0) (ty := .int) (C := RX11) (T := TX11) (N := 61) hx hb hts hin11 tyX11 tyX11_ok nmX11 hown hK hP hD hS 0 rfl rfl 2 (by decide) hw_1 (fun _ h9 => h9) rfl (by decide +kernel) rfl rfl (Nat.le_of_ble_eq_true rfl) dX11_port_2 (fun H locs hPa hDa hS => ?_)
  clear hP hD
  have hP : va_P (dC, dI) vwCl [(m0, .inr (11, oX11 ra (upd x0 0 0))), (ra 2, .inl (kI, 8, .inl q_told)), (ra 3, .inl (kI, 24, .inl q_kind)), (ra 4, .inl (kI, 24, .inl q_salt)), (ra 8, .inl (kI, 40, .inl q_from)), (ra 9, .inl (kI, 40, .inl q_to)), (ra 10, .inl (kI, 6, .inl q_goal)), (ra 11, .inl (kI, 1019, .inl q_now)), (ra 14, .inl (kI, 12, .inl q_reach))] H := hPa
  have hD : va_D A [(m0, .inr (11, oX11 ra (upd x0 0 0))), (ra 2, .inl (kI, 8, .inl q_told)), (ra 3, .inl (kI, 24, .inl q_kind)), (ra 4, .inl (kI, 24, .inl q_salt)), (ra 8, .inl (kI, 40, .inl q_from)), (ra 9, .inl (kI, 40, .inl q_to)), (ra 10, .inl (kI, 6, .inl q_goal)), (ra 11, .inl (kI, 1019, .inl q_now)), (ra 14, .inl (kI, 12, .inl q_reach))] := hDa
  clear hPa hDa
  refine lv_aload_n hx hb dX11_port_5 rfl (lv_at hl 0 rfl) ?_
  refine lv_iload_n hx hb dX11_port_6 rfl (lv_at hl 1 rfl) ?_
  obtain ⟨hPc, hDc, hFc, hJn⟩ := cl_a (wc := [(m0, .inr (11, oX11 ra (upd x0 0 0))), (ra 2, .inl (kI, 8, .inl q_told))]) (wr := [(ra 3, .inl (kI, 24, .inl q_kind)), (ra 4, .inl (kI, 24, .inl q_salt)), (ra 8, .inl (kI, 40, .inl q_from)), (ra 9, .inl (kI, 40, .inl q_to)), (ra 10, .inl (kI, 6, .inl q_goal)), (ra 11, .inl (kI, 1019, .inl q_now)), (ra 14, .inl (kI, 12, .inl q_reach))]) hP hD hS hA [0, 1] [2, 3, 4, 5, 6, 7, 8] rfl rfl (by decide +kernel)
  refine va_calli (va_runV (As := [.int p0]) (rest := []) ⟨hx, hb, hml, hown, hts⟩ (s11_isGoal l dC dI kB kI kJ kZ kC kS H.size m0 ra (upd x0 0 0) q_told p0 ((fI_u hX (k := 0) ((iv_w ivk_0 (by decide) (by decide))))) (hq_told)) (cwV 1 hts gX11_port_X11_isGoal rfl rfl rfl (by decide +kernel) ⟨Nat.le_of_ble_eq_true rfl, Nat.le_of_ble_eq_true rfl⟩) ⟨fun a U g mk q => by obtain ⟨q0, q1, qP, qE, qD⟩ := q; exact ⟨q0, q1, qP, kE_call qE, qD⟩, va_recv hK hP (ci := 11) (q0 := 0) rfl rfl, fun U hU hW => ⟨rfl, by rw [hU], by rw [hU]; exact hPc, kE_warm hW hE, hDc.weaken (fun _ _ _ _ => trivial)⟩⟩ rfl rfl hl.1 rfl (lv_room (Nat.le_of_ble_eq_true rfl)) dX11_port_7 ⟨Nat.le_of_ble_eq_true rfl, Nat.le_of_ble_eq_true rfl⟩) hS (fun q _ h => hFc q h) hFc (fun r30 u t H locs ht hvm w31 hB hz1 hk1 hS => ?_)
  obtain ⟨hP1, hD1⟩ := hB
  try dsimp only at w31
  obtain ⟨hPa, hDa⟩ := hJn (w1 := [(m0, .inr (11, oX11 ra (upd x0 0 0))), (ra 2, .inl (kI, 8, .inl q_told))]) hk1 ht hP1 hD1
  clear hP hD hPc hDc hFc hJn hP1 hD1 hk1
  have hP : va_P (dC, dI) vwCl [(ra 3, .inl (kI, 24, .inl q_kind)), (ra 4, .inl (kI, 24, .inl q_salt)), (ra 8, .inl (kI, 40, .inl q_from)), (ra 9, .inl (kI, 40, .inl q_to)), (ra 10, .inl (kI, 6, .inl q_goal)), (ra 11, .inl (kI, 1019, .inl q_now)), (ra 14, .inl (kI, 12, .inl q_reach)), (m0, .inr (11, oX11 ra (upd x0 0 0))), (ra 2, .inl (kI, 8, .inl q_told))] H := hPa
  have hD : va_D A [(ra 3, .inl (kI, 24, .inl q_kind)), (ra 4, .inl (kI, 24, .inl q_salt)), (ra 8, .inl (kI, 40, .inl q_from)), (ra 9, .inl (kI, 40, .inl q_to)), (ra 10, .inl (kI, 6, .inl q_goal)), (ra 11, .inl (kI, 1019, .inl q_now)), (ra 14, .inl (kI, 12, .inl q_reach)), (m0, .inr (11, oX11 ra (upd x0 0 0))), (ra 2, .inl (kI, 8, .inl q_told))] := hDa
  clear hPa hDa
  refine W.widen (k := 0) (n := 0) (Nat.le_of_ble_eq_true rfl) (Nat.le_of_ble_eq_true rfl) ?_
  refine lv_if_eq (tgt := 27) hx hb dX11_port_10 rfl (fun c32 => ?_) (fun c32 => ?_)
  · have b33 : iv 0 0 r30 := iv_eqL c32 ivk_0
    have hPD9 := cl_s (wc := [(m0, .inr (11, oX11 ra (upd x0 0 0))), (ra 2, .inl (kI, 8, .inl q_told)), (ra 3, .inl (kI, 24, .inl q_kind)), (ra 4, .inl (kI, 24, .inl q_salt)), (ra 8, .inl (kI, 40, .inl q_from)), (ra 9, .inl (kI, 40, .inl q_to)), (ra 10, .inl (kI, 6, .inl q_goal)), (ra 11, .inl (kI, 1019, .inl q_now)), (ra 14, .inl (kI, 12, .inl q_reach))]) hP hD [7, 8, 0, 1, 2, 3, 4, 5, 6] rfl (by decide +kernel)
    exact hJ27 (upd x0 0 0) _ _ _ ((fI_u hX (k := 0) ((iv_w ivk_0 (by decide) (by decide))))) (ivk_0) ((show x0 1 = x0 1 from rfl)) ((show x0 10 = x0 10 from rfl)) ((show x0 11 = x0 11 from rfl)) ((show x0 14 = x0 14 from rfl)) (hPD9.1) (hPD9.2) hS (lv_sub hl [0, 1, 2] rfl)
  · have b34 : iv 1 1 r30 := iv_neLo c32 w31.1 ivk_0 (by decide) (by decide)
    have b35 : iv 0 2 p0 := (w31.2).resolve_left (iv_ne b34 ivk_0 (by decide))
    refine lv_iload_n hx hb dX11_port_13 rfl (lv_at hl 2 rfl) ?_
    refine lv_iconst (v := 0) hx hb dX11_port_14 ic_0 ?_
    refine lv_aload_n hx hb dX11_port_15 rfl (lv_at hl 0 rfl) ?_
    obtain ⟨hPc, hDc, hFc, hJn⟩ := cl_a (wc := [(m0, .inr (11, oX11 ra (upd x0 0 0))), (ra 2, .inl (kI, 8, .inl q_told))]) (wr := [(ra 3, .inl (kI, 24, .inl q_kind)), (ra 4, .inl (kI, 24, .inl q_salt)), (ra 8, .inl (kI, 40, .inl q_from)), (ra 9, .inl (kI, 40, .inl q_to)), (ra 10, .inl (kI, 6, .inl q_goal)), (ra 11, .inl (kI, 1019, .inl q_now)), (ra 14, .inl (kI, 12, .inl q_reach))]) hP hD hS hA [7, 8] [0, 1, 2, 3, 4, 5, 6] rfl rfl (by decide +kernel)
    refine va_calli (va_runV (As := []) (rest := [.int 0, .int p1]) ⟨hx, hb, hml, hown, hts⟩ (s11_links l dC dI kB kI kJ kZ kC kS H.size m0 ra (upd x0 0 0) q_told ((fI_u hX (k := 0) ((iv_w ivk_0 (by decide) (by decide))))) (hq_told)) (cwV 0 hts gX11_port_X11_links rfl rfl rfl (by decide +kernel) ⟨Nat.le_of_ble_eq_true rfl, Nat.le_of_ble_eq_true rfl⟩) ⟨fun a U g mk q => by obtain ⟨q0, q1, qP, qE, qD⟩ := q; exact ⟨q0, q1, qP, kE_call qE, qD⟩, va_recv hK hP (ci := 11) (q0 := 7) rfl rfl, fun U hU hW => ⟨rfl, by rw [hU], by rw [hU]; exact hPc, kE_warm hW hE, hDc.weaken (fun _ _ _ _ => trivial)⟩⟩ rfl rfl hl.1 rfl (lv_room (Nat.le_of_ble_eq_true rfl)) dX11_port_16 ⟨Nat.le_of_ble_eq_true rfl, Nat.le_of_ble_eq_true rfl⟩) hS (fun q _ h => hFc q h) hFc (fun r36 u t H locs ht hvm w37 hB hz1 hk1 hS => ?_)
    obtain ⟨hP1, hD1⟩ := hB
    try dsimp only at w37
    obtain ⟨hPa, hDa⟩ := hJn (w1 := [(m0, .inr (11, oX11 ra (upd x0 0 0))), (ra 2, .inl (kI, 8, .inl q_told))]) hk1 ht hP1 hD1
    clear hP hD hPc hDc hFc hJn hP1 hD1 hk1
    have hP : va_P (dC, dI) vwCl [(ra 3, .inl (kI, 24, .inl q_kind)), (ra 4, .inl (kI, 24, .inl q_salt)), (ra 8, .inl (kI, 40, .inl q_from)), (ra 9, .inl (kI, 40, .inl q_to)), (ra 10, .inl (kI, 6, .inl q_goal)), (ra 11, .inl (kI, 1019, .inl q_now)), (ra 14, .inl (kI, 12, .inl q_reach)), (m0, .inr (11, oX11 ra (upd x0 0 0))), (ra 2, .inl (kI, 8, .inl q_told))] H := hPa
    have hD : va_D A [(ra 3, .inl (kI, 24, .inl q_kind)), (ra 4, .inl (kI, 24, .inl q_salt)), (ra 8, .inl (kI, 40, .inl q_from)), (ra 9, .inl (kI, 40, .inl q_to)), (ra 10, .inl (kI, 6, .inl q_goal)), (ra 11, .inl (kI, 1019, .inl q_now)), (ra 14, .inl (kI, 12, .inl q_reach)), (m0, .inr (11, oX11 ra (upd x0 0 0))), (ra 2, .inl (kI, 8, .inl q_told))] := hDa
    clear hPa hDa
    refine W.widen (k := 0) (n := 0) (Nat.le_of_ble_eq_true rfl) (Nat.le_of_ble_eq_true rfl) ?_
    subst w37
    refine lv_iconst (v := 1) hx hb dX11_port_19 ic_1 ?_
    refine lv_isub hx hb dX11_port_20 ?_
    refine iv_top (a := (-1)) (b := 19) (iv_sub (hq_told 1 : iv 0 20 (q_told 1)) ivk_1 (by decide) (by decide) (by decide) (by decide)) (fun z38 b39 => ?_)
    obtain ⟨hPc, hDc, hFc, hJn⟩ := cl_a (wc := []) (wr := [(ra 3, .inl (kI, 24, .inl q_kind)), (ra 4, .inl (kI, 24, .inl q_salt)), (ra 8, .inl (kI, 40, .inl q_from)), (ra 9, .inl (kI, 40, .inl q_to)), (ra 10, .inl (kI, 6, .inl q_goal)), (ra 11, .inl (kI, 1019, .inl q_now)), (ra 14, .inl (kI, 12, .inl q_reach)), (m0, .inr (11, oX11 ra (upd x0 0 0))), (ra 2, .inl (kI, 8, .inl q_told))]) hP hD hS hA [] [0, 1, 2, 3, 4, 5, 6, 7, 8] rfl rfl (by decide +kernel)
    refine va_calli (va_runS (As := [.int p1, .int 0, .int z38]) (rest := []) ⟨hx, hb, hml, hown, hts⟩ (s11_isIn l dC dI kB kI kJ kZ kC kS H.size p1 0 z38) (va_cwS 3 hts gX11_port_X11_isIn rfl rfl rfl (by decide +kernel) ⟨Nat.le_of_ble_eq_true rfl, Nat.le_of_ble_eq_true rfl⟩) ⟨fun a U g mk q => by obtain ⟨q0, q1, qP, qE, qD⟩ := q; exact ⟨q0, q1, qP, kE_call qE, qD⟩, fun U hU hW => ⟨rfl, by rw [hU], by rw [hU]; exact hPc, kE_warm hW hE, hDc.weaken (fun _ _ _ _ => trivial)⟩⟩ rfl rfl hl.1 rfl (lv_room (Nat.le_of_ble_eq_true rfl)) dX11_port_21 ⟨Nat.le_of_ble_eq_true rfl, Nat.le_of_ble_eq_true rfl⟩) hS (fun q _ h => hFc q h) hFc (fun r40 u t H locs ht hvm w41 hB hz1 hk1 hS => ?_)
    obtain ⟨hP1, hD1⟩ := hB
    try dsimp only at w41
    obtain ⟨hPa, hDa⟩ := hJn (w1 := []) hk1 ht hP1 hD1
    clear hP hD hPc hDc hFc hJn hP1 hD1 hk1
    have hP : va_P (dC, dI) vwCl [(ra 3, .inl (kI, 24, .inl q_kind)), (ra 4, .inl (kI, 24, .inl q_salt)), (ra 8, .inl (kI, 40, .inl q_from)), (ra 9, .inl (kI, 40, .inl q_to)), (ra 10, .inl (kI, 6, .inl q_goal)), (ra 11, .inl (kI, 1019, .inl q_now)), (ra 14, .inl (kI, 12, .inl q_reach)), (m0, .inr (11, oX11 ra (upd x0 0 0))), (ra 2, .inl (kI, 8, .inl q_told))] H := hPa
    have hD : va_D A [(ra 3, .inl (kI, 24, .inl q_kind)), (ra 4, .inl (kI, 24, .inl q_salt)), (ra 8, .inl (kI, 40, .inl q_from)), (ra 9, .inl (kI, 40, .inl q_to)), (ra 10, .inl (kI, 6, .inl q_goal)), (ra 11, .inl (kI, 1019, .inl q_now)), (ra 14, .inl (kI, 12, .inl q_reach)), (m0, .inr (11, oX11 ra (upd x0 0 0))), (ra 2, .inl (kI, 8, .inl q_told))] := hDa
    clear hPa hDa
    refine W.widen (k := 0) (n := 0) (Nat.le_of_ble_eq_true rfl) (Nat.le_of_ble_eq_true rfl) ?_
    refine lv_if_ne (tgt := 33) hx hb dX11_port_24 rfl (fun c42 => ?_) (fun c42 => ?_)
    · have b43 : iv 1 1 r40 := iv_neLo c42 w41.1 ivk_0 (by decide) (by decide)
      have hr44 := (w41.2).resolve_left (iv_ne b43 ivk_0 (by decide))
      have b45 : iv 0 19 p1 := iv_cap (in_iv hr44 ivk_0 b39) (iv_t p1) (by decide) (by decide)
      refine lv_iconst (v := 0) hx hb dX11_port_33 ic_0 ?_
      refine lv_istore_n (lv' := [(3, .int 0), (0, .ref m0), (1, .int p0), (2, .int p1)]) hx hb dX11_port_34 rfl hl (Nat.le_of_ble_eq_true rfl) rfl (fun ls hl => ?_)
      have hPD9 := cl_s (wc := [(m0, .inr (11, oX11 ra (upd x0 0 0))), (ra 2, .inl (kI, 8, .inl q_told)), (ra 3, .inl (kI, 24, .inl q_kind)), (ra 4, .inl (kI, 24, .inl q_salt)), (ra 8, .inl (kI, 40, .inl q_from)), (ra 9, .inl (kI, 40, .inl q_to)), (ra 10, .inl (kI, 6, .inl q_goal)), (ra 11, .inl (kI, 1019, .inl q_now)), (ra 14, .inl (kI, 12, .inl q_reach))]) hP hD [7, 8, 0, 1, 2, 3, 4, 5, 6] rfl (by decide +kernel)
      exact hJ35 _ (upd x0 0 0) q_now 0 _ _ _ (Nat.lt_succ_self _) ((fI_u hX (k := 0) ((iv_w ivk_0 (by decide) (by decide))))) (hq_now) (b35) (b45) ((iv_w ivk_0 (by decide) (by decide))) ((show x0 1 = x0 1 from rfl)) ((show x0 10 = x0 10 from rfl)) ((show x0 11 = x0 11 from rfl)) ((show x0 14 = x0 14 from rfl)) (hPD9.1) (hPD9.2) hS (lv_sub hl [1, 2, 3, 0] rfl)
    · have b46 : iv 0 0 r40 := iv_eqL c42 ivk_0
      have hPD9 := cl_s (wc := [(m0, .inr (11, oX11 ra (upd x0 0 0))), (ra 2, .inl (kI, 8, .inl q_told)), (ra 3, .inl (kI, 24, .inl q_kind)), (ra 4, .inl (kI, 24, .inl q_salt)), (ra 8, .inl (kI, 40, .inl q_from)), (ra 9, .inl (kI, 40, .inl q_to)), (ra 10, .inl (kI, 6, .inl q_goal)), (ra 11, .inl (kI, 1019, .inl q_now)), (ra 14, .inl (kI, 12, .inl q_reach))]) hP hD [7, 8, 0, 1, 2, 3, 4, 5, 6] rfl (by decide +kernel)
      exact hJ27 (upd x0 0 0) _ _ _ ((fI_u hX (k := 0) ((iv_w ivk_0 (by decide) (by decide))))) (ivk_0) ((show x0 1 = x0 1 from rfl)) ((show x0 10 = x0 10 from rfl)) ((show x0 11 = x0 11 from rfl)) ((show x0 14 = x0 14 from rfl)) (hPD9.1) (hPD9.2) hS (lv_sub hl [0, 1, 2] rfl)
def rm_s11_use : Room := { frames := 4, cells := 0, slots := 0, locals := 102 }
set_option maxHeartbeats 4000000 in
set_option maxRecDepth 100000 in
theorem s11_use (l : Launch) (dC : Nat → ClassId) (dI : Nat → Nat → Nat) (kB kI kJ kZ kC kS : ClassId) (sz : Nat) (m0 : Nat) (ra : Nat → Nat) (x0 : Nat → Int32) (q_told : Nat → Int32) (q_kind : Nat → Int32) (q_salt : Nat → Int32) (q_from : Nat → Int32) (q_to : Nat → Int32) (q_goal : Nat → Int32) (q_now : Nat → Int32) (q_reach : Nat → Int32) (p0 : Int32) (p1 : Int32) (hX : fI lX11 hX11 x0) (hq_told : fI lTold hTold q_told) (hq_salt : fI (fun _ => 0) (fun _ => 15) q_salt) (hq_from : fI (fun _ => 0) (fun _ => 11) q_from) (hq_to : fI (fun _ => 0) (fun _ => 11) q_to) (hq_goal : fI (fun _ => 0) (fun _ => 11) q_goal) (hq_now : fI lNow hNow q_now) (hLT : ∀ j : Nat, (j : Int) < (q_told 1).toInt → (q_from j).toInt < (q_to j).toInt) : Met l yX11_use wsX11_use rm_s11_use (va_Pc [.ref m0, .int p0, .int p1] (fun U => U.heap.size = sz ∧ va_P (dC, dI) vwCl [(m0, .inr (11, oX11 ra x0)), (ra 2, .inl (kI, 8, .inl q_told)), (ra 3, .inl (kI, 24, .inl q_kind)), (ra 4, .inl (kI, 24, .inl q_salt)), (ra 8, .inl (kI, 40, .inl q_from)), (ra 9, .inl (kI, 40, .inl q_to)), (ra 10, .inl (kI, 6, .inl q_goal)), (ra 11, .inl (kI, 1019, .inl q_now)), (ra 14, .inl (kI, 12, .inl q_reach))] U.heap ∧ kE dC dI kB kI kJ kZ kC kS U ∧ va_D (fun _ => True) [(m0, .inr (11, oX11 ra x0)), (ra 2, .inl (kI, 8, .inl q_told)), (ra 3, .inl (kI, 24, .inl q_kind)), (ra 4, .inl (kI, 24, .inl q_salt)), (ra 8, .inl (kI, 40, .inl q_from)), (ra 9, .inl (kI, 40, .inl q_to)), (ra 10, .inl (kI, 6, .inl q_goal)), (ra 11, .inl (kI, 1019, .inl q_now)), (ra 14, .inl (kI, 12, .inl q_reach))])) (va_Qi (fun (r : Int32) (_ : Unit) => True) (fun _ t => ∃ (x0' : Nat → Int32) (q_now' : Nat → Int32), fI lX11 hX11 x0' ∧ fI lNow hNow q_now' ∧ (x0' 1 = x0 1) ∧ (x0' 10 = x0 10) ∧ (x0' 11 = x0 11) ∧ (x0' 14 = x0 14) ∧ va_P (dC, dI) vwCl [(m0, .inr (11, oX11 ra x0')), (ra 2, .inl (kI, 8, .inl q_told)), (ra 3, .inl (kI, 24, .inl q_kind)), (ra 4, .inl (kI, 24, .inl q_salt)), (ra 8, .inl (kI, 40, .inl q_from)), (ra 9, .inl (kI, 40, .inl q_to)), (ra 10, .inl (kI, 6, .inl q_goal)), (ra 11, .inl (kI, 1019, .inl q_now')), (ra 14, .inl (kI, 12, .inl q_reach))] t.heap ∧ va_D (va_A [(m0, .inr (11, oX11 ra x0)), (ra 2, .inl (kI, 8, .inl q_told)), (ra 3, .inl (kI, 24, .inl q_kind)), (ra 4, .inl (kI, 24, .inl q_salt)), (ra 8, .inl (kI, 40, .inl q_from)), (ra 9, .inl (kI, 40, .inl q_to)), (ra 10, .inl (kI, 6, .inl q_goal)), (ra 11, .inl (kI, 1019, .inl q_now)), (ra 14, .inl (kI, 12, .inl q_reach))] sz) [(m0, .inr (11, oX11 ra x0')), (ra 2, .inl (kI, 8, .inl q_told)), (ra 3, .inl (kI, 24, .inl q_kind)), (ra 4, .inl (kI, 24, .inl q_salt)), (ra 8, .inl (kI, 40, .inl q_from)), (ra 9, .inl (kI, 40, .inl q_to)), (ra 10, .inl (kI, 6, .inl q_goal)), (ra 11, .inl (kI, 1019, .inl q_now')), (ra 14, .inl (kI, 12, .inl q_reach))]) (va_A [(m0, .inr (11, oX11 ra x0)), (ra 2, .inl (kI, 8, .inl q_told)), (ra 3, .inl (kI, 24, .inl q_kind)), (ra 4, .inl (kI, 24, .inl q_salt)), (ra 8, .inl (kI, 40, .inl q_from)), (ra 9, .inl (kI, 40, .inl q_to)), (ra 10, .inl (kI, 6, .inl q_goal)), (ra 11, .inl (kI, 1019, .inl q_now)), (ra 14, .inl (kI, 12, .inl q_reach))] sz)) 0 0 (va_A [(m0, .inr (11, oX11 ra x0)), (ra 2, .inl (kI, 8, .inl q_told)), (ra 3, .inl (kI, 24, .inl q_kind)), (ra 4, .inl (kI, 24, .inl q_salt)), (ra 8, .inl (kI, 40, .inl q_from)), (ra 9, .inl (kI, 40, .inl q_to)), (ra 10, .inl (kI, 6, .inl q_goal)), (ra 11, .inl (kI, 1019, .inl q_now)), (ra 14, .inl (kI, 12, .inl q_reach))] sz) := by
  refine Met.ofW (cc := cX11_use) (maxL := 5) (ret := (some .int)) (by decide) rfl ?_
  intro p e s m args0 below meth c s₁ B hml hv
  obtain ⟨hargs, hsz, hP, hE, hD0⟩ := hv
  have hx := B.exec
  have hb := B.bytes
  have hr := B.returns
  have hts := atoms_spec (ws := wsX11_use) B.pre
  have hown : s.vm.findClass RX11 = some m.cls := findClass_of_methodNamed B.named
  have hlocks := B.notSynchronized
  have hK := hE.1
  have hin11 : ∀ w ∈ wsX110, w ∈ wsX11_use := fun _ h9 => List.mem_cons_of_mem _ (List.mem_append_right _ h9)
  have hw_0 := hts (.fieldLink RX11 440 "PathProberModel" "wayLinks" "I") (List.mem_of_getElem? (i := 2) rfl)
  have hw_1 := hts (.fieldLink RX11 142 "PathProberModel" "code" "I") (List.mem_of_getElem? (i := 1) rfl)
  subst hsz
  have hD := hD0.self (sz := s.heap.size)
  generalize hAe : va_A [(m0, .inr (11, oX11 ra x0)), (ra 2, .inl (kI, 8, .inl q_told)), (ra 3, .inl (kI, 24, .inl q_kind)), (ra 4, .inl (kI, 24, .inl q_salt)), (ra 8, .inl (kI, 40, .inl q_from)), (ra 9, .inl (kI, 40, .inl q_to)), (ra 10, .inl (kI, 6, .inl q_goal)), (ra 11, .inl (kI, 1019, .inl q_now)), (ra 14, .inl (kI, 12, .inl q_reach))] s.heap.size = A at hD ⊢
  have hA : ∀ q : Nat, s.heap.size ≤ q → A q := fun q h => by rw [← hAe]; exact Or.inr h
  have hS : va_S A s.heap s.heap [] := va_S.rf
  have hP : va_P (dC, dI) vwCl [(m0, .inr (11, oX11 ra x0)), (ra 2, .inl (kI, 8, .inl q_told)), (ra 3, .inl (kI, 24, .inl q_kind)), (ra 4, .inl (kI, 24, .inl q_salt)), (ra 8, .inl (kI, 40, .inl q_from)), (ra 9, .inl (kI, 40, .inl q_to)), (ra 10, .inl (kI, 6, .inl q_goal)), (ra 11, .inl (kI, 1019, .inl q_now)), (ra 14, .inl (kI, 12, .inl q_reach))] s.heap := hP
  have hl := lv_entry ([.ref m0, .int p0, .int p1]) (n := 5) (Nat.le_of_ble_eq_true rfl)
  have hla : entryFrame m args0 5 = entryFrame m ([.ref m0, .int p0, .int p1] : List Value).toArray 5 := by rw [hargs]
  rw [hla, lg_entry_eq]
  generalize (lg_sl ([.ref m0, .int p0, .int p1]) ++ List.replicate (5 - (lg_sl ([.ref m0, .int p0, .int p1])).length) Slot.unset).toArray = ls at hl ⊢
  have hl : lv_has ls 5 [(0, .ref m0), (1, .int p0), (2, .int p1)] := hl
  have hJ27 : ∀ (y27_0 : Nat → Int32) (H : Heap) (locs : List Loc) (ls : Array Slot), fI lX11 hX11 y27_0 → iv 0 0 (y27_0 0) → (y27_0 1 = x0 1) → (y27_0 10 = x0 10) → (y27_0 11 = x0 11) → (y27_0 14 = x0 14) → va_P (dC, dI) vwCl [(m0, .inr (11, oX11 ra y27_0)), (ra 2, .inl (kI, 8, .inl q_told)), (ra 3, .inl (kI, 24, .inl q_kind)), (ra 4, .inl (kI, 24, .inl q_salt)), (ra 8, .inl (kI, 40, .inl q_from)), (ra 9, .inl (kI, 40, .inl q_to)), (ra 10, .inl (kI, 6, .inl q_goal)), (ra 11, .inl (kI, 1019, .inl q_now)), (ra 14, .inl (kI, 12, .inl q_reach))] H → va_D A [(m0, .inr (11, oX11 ra y27_0)), (ra 2, .inl (kI, 8, .inl q_told)), (ra 3, .inl (kI, 24, .inl q_kind)), (ra 4, .inl (kI, 24, .inl q_salt)), (ra 8, .inl (kI, 40, .inl q_from)), (ra 9, .inl (kI, 40, .inl q_to)), (ra 10, .inl (kI, 6, .inl q_goal)), (ra 11, .inl (kI, 1019, .inl q_now)), (ra 14, .inl (kI, 12, .inl q_reach))] → va_S A s.heap H locs → lv_has ls 5 [(0, .ref m0), (1, .int p0), (2, .int p1)] → W p l e (headSpec wsX11_use rm_s11_use).room s m args0 below meth c H locs (0) (0) (MQ below (va_Qi (fun (r : Int32) (_ : Unit) => True) (fun _ t => ∃ (x0' : Nat → Int32) (q_now' : Nat → Int32), fI lX11 hX11 x0' ∧ fI lNow hNow q_now' ∧ (x0' 1 = x0 1) ∧ (x0' 10 = x0 10) ∧ (x0' 11 = x0 11) ∧ (x0' 14 = x0 14) ∧ va_P (dC, dI) vwCl [(m0, .inr (11, oX11 ra x0')), (ra 2, .inl (kI, 8, .inl q_told)), (ra 3, .inl (kI, 24, .inl q_kind)), (ra 4, .inl (kI, 24, .inl q_salt)), (ra 8, .inl (kI, 40, .inl q_from)), (ra 9, .inl (kI, 40, .inl q_to)), (ra 10, .inl (kI, 6, .inl q_goal)), (ra 11, .inl (kI, 1019, .inl q_now')), (ra 14, .inl (kI, 12, .inl q_reach))] t.heap ∧ va_D A [(m0, .inr (11, oX11 ra x0')), (ra 2, .inl (kI, 8, .inl q_told)), (ra 3, .inl (kI, 24, .inl q_kind)), (ra 4, .inl (kI, 24, .inl q_salt)), (ra 8, .inl (kI, 40, .inl q_from)), (ra 9, .inl (kI, 40, .inl q_to)), (ra 10, .inl (kI, 6, .inl q_goal)), (ra 11, .inl (kI, 1019, .inl q_now')), (ra 14, .inl (kI, 12, .inl q_reach))]) A) args0 s 0 0 A) (F0 m 27 ls []) := by
    intro y27_0 H locs ls hI27_0 h27_2 htp_27 hfp_27 hor_27 hirl_27 hP hD hS hl
    refine lv_aload_n hx hb dX11_use_27 rfl (lv_at hl 0 rfl) ?_
    refine lv_iconst (v := 1) hx hb dX11_use_28 ic_1 ?_
    obtain ⟨hPc, hDc, hFc, hJn⟩ := cl_a (wc := [(m0, .inr (11, oX11 ra y27_0))]) (wr := [(ra 2, .inl (kI, 8, .inl q_told)), (ra 3, .inl (kI, 24, .inl q_kind)), (ra 4, .inl (kI, 24, .inl q_salt)), (ra 8, .inl (kI, 40, .inl q_from)), (ra 9, .inl (kI, 40, .inl q_to)), (ra 10, .inl (kI, 6, .inl q_goal)), (ra 11, .inl (kI, 1019, .inl q_now)), (ra 14, .inl (kI, 12, .inl q_reach))]) hP hD hS hA [0] [1, 2, 3, 4, 5, 6, 7, 8] rfl rfl (by decide +kernel)
    refine va_calli (va_runV (As := [.int 1]) (rest := []) ⟨hx, hb, hml, hown, hts⟩ (s11_fail l dC dI kB kI kJ kZ kC kS H.size m0 ra y27_0 1 (hI27_0)) (cwV 1 hts gX11_use_X11_fail rfl rfl rfl (by decide +kernel) ⟨Nat.le_of_ble_eq_true rfl, Nat.le_of_ble_eq_true rfl⟩) ⟨fun a U g mk q => by obtain ⟨q0, q1, qP, qE, qD⟩ := q; exact ⟨q0, q1, qP, kE_call qE, qD⟩, va_recv hK hP (ci := 11) (q0 := 0) rfl rfl, fun U hU hW => ⟨rfl, by rw [hU], by rw [hU]; exact hPc, kE_warm hW hE, hDc.weaken (fun _ _ _ _ => trivial)⟩⟩ rfl rfl hl.1 rfl (lv_room (Nat.le_of_ble_eq_true rfl)) dX11_use_29 ⟨Nat.le_of_ble_eq_true rfl, Nat.le_of_ble_eq_true rfl⟩) hS (fun q _ h => hFc q h) hFc (fun r1 u t H locs ht hvm w2 hB hz1 hk1 hS => ?_)
    obtain ⟨y3, hq4, hq5, hq6, hq7, hq8, hq9, hP1, hD1⟩ := hB
    try dsimp only at w2
    obtain ⟨hPa, hDa⟩ := hJn (w1 := [(m0, .inr (11, oX11 ra y3))]) hk1 ht hP1 hD1
    clear hP hD hPc hDc hFc hJn hP1 hD1 hk1
    have hP : va_P (dC, dI) vwCl [(ra 2, .inl (kI, 8, .inl q_told)), (ra 3, .inl (kI, 24, .inl q_kind)), (ra 4, .inl (kI, 24, .inl q_salt)), (ra 8, .inl (kI, 40, .inl q_from)), (ra 9, .inl (kI, 40, .inl q_to)), (ra 10, .inl (kI, 6, .inl q_goal)), (ra 11, .inl (kI, 1019, .inl q_now)), (ra 14, .inl (kI, 12, .inl q_reach)), (m0, .inr (11, oX11 ra y3))] H := hPa
    have hD : va_D A [(ra 2, .inl (kI, 8, .inl q_told)), (ra 3, .inl (kI, 24, .inl q_kind)), (ra 4, .inl (kI, 24, .inl q_salt)), (ra 8, .inl (kI, 40, .inl q_from)), (ra 9, .inl (kI, 40, .inl q_to)), (ra 10, .inl (kI, 6, .inl q_goal)), (ra 11, .inl (kI, 1019, .inl q_now)), (ra 14, .inl (kI, 12, .inl q_reach)), (m0, .inr (11, oX11 ra y3))] := hDa
    clear hPa hDa
    refine W.widen (k := 0) (n := 0) (Nat.le_of_ble_eq_true rfl) (Nat.le_of_ble_eq_true rfl) ?_
    obtain rfl : r1 = 0 := iv_one w2 (by decide)
    have hPD9 := cl_s (wc := [(m0, .inr (11, oX11 ra y3)), (ra 2, .inl (kI, 8, .inl q_told)), (ra 3, .inl (kI, 24, .inl q_kind)), (ra 4, .inl (kI, 24, .inl q_salt)), (ra 8, .inl (kI, 40, .inl q_from)), (ra 9, .inl (kI, 40, .inl q_to)), (ra 10, .inl (kI, 6, .inl q_goal)), (ra 11, .inl (kI, 1019, .inl q_now)), (ra 14, .inl (kI, 12, .inl q_reach))]) hP hD [8, 0, 1, 2, 3, 4, 5, 6, 7] rfl (by decide +kernel)
    have hP9 := hPD9.1
    have hD9 := hPD9.2
    exact W.iret (v := 0) hx hb hr (fun t ht hW => ⟨⟨0, (), rfl, trivial, y3, q_now, hq4, hq_now, (show y3 1 = x0 1 from hq6.trans (htp_27)), (show y3 10 = x0 10 from hq7.trans (hfp_27)), (show y3 11 = x0 11 from hq8.trans (hor_27)), (show y3 14 = x0 14 from hq9.trans (hirl_27)), by rw [ht]; exact hP9, hD9⟩, hS.F ht⟩) hS.2.2 dX11_use_32
  have hJ38 : ∀ (n : Nat) (y38_0 : Nat → Int32) (g38_7 : Nat → Int32) (v38_loc3 : Int32) (v38_loc4 : Int32) (H : Heap) (locs : List Loc) (ls : Array Slot), (32 - v38_loc4.toInt).toNat < n → fI lX11 hX11 y38_0 → fI lNow hNow g38_7 → iv 0 2 p0 → iv 0 19 p1 → iv 0 32 v38_loc4 → (y38_0 1 = x0 1) → (y38_0 10 = x0 10) → (y38_0 11 = x0 11) → (y38_0 14 = x0 14) → va_P (dC, dI) vwCl [(m0, .inr (11, oX11 ra y38_0)), (ra 2, .inl (kI, 8, .inl q_told)), (ra 3, .inl (kI, 24, .inl q_kind)), (ra 4, .inl (kI, 24, .inl q_salt)), (ra 8, .inl (kI, 40, .inl q_from)), (ra 9, .inl (kI, 40, .inl q_to)), (ra 10, .inl (kI, 6, .inl q_goal)), (ra 11, .inl (kI, 1019, .inl g38_7)), (ra 14, .inl (kI, 12, .inl q_reach))] H → va_D A [(m0, .inr (11, oX11 ra y38_0)), (ra 2, .inl (kI, 8, .inl q_told)), (ra 3, .inl (kI, 24, .inl q_kind)), (ra 4, .inl (kI, 24, .inl q_salt)), (ra 8, .inl (kI, 40, .inl q_from)), (ra 9, .inl (kI, 40, .inl q_to)), (ra 10, .inl (kI, 6, .inl q_goal)), (ra 11, .inl (kI, 1019, .inl g38_7)), (ra 14, .inl (kI, 12, .inl q_reach))] → va_S A s.heap H locs → lv_has ls 5 [(0, .ref m0), (1, .int p0), (2, .int p1), (3, .int v38_loc3), (4, .int v38_loc4)] → W p l e (headSpec wsX11_use rm_s11_use).room s m args0 below meth c H locs (0) (0) (MQ below (va_Qi (fun (r : Int32) (_ : Unit) => True) (fun _ t => ∃ (x0' : Nat → Int32) (q_now' : Nat → Int32), fI lX11 hX11 x0' ∧ fI lNow hNow q_now' ∧ (x0' 1 = x0 1) ∧ (x0' 10 = x0 10) ∧ (x0' 11 = x0 11) ∧ (x0' 14 = x0 14) ∧ va_P (dC, dI) vwCl [(m0, .inr (11, oX11 ra x0')), (ra 2, .inl (kI, 8, .inl q_told)), (ra 3, .inl (kI, 24, .inl q_kind)), (ra 4, .inl (kI, 24, .inl q_salt)), (ra 8, .inl (kI, 40, .inl q_from)), (ra 9, .inl (kI, 40, .inl q_to)), (ra 10, .inl (kI, 6, .inl q_goal)), (ra 11, .inl (kI, 1019, .inl q_now')), (ra 14, .inl (kI, 12, .inl q_reach))] t.heap ∧ va_D A [(m0, .inr (11, oX11 ra x0')), (ra 2, .inl (kI, 8, .inl q_told)), (ra 3, .inl (kI, 24, .inl q_kind)), (ra 4, .inl (kI, 24, .inl q_salt)), (ra 8, .inl (kI, 40, .inl q_from)), (ra 9, .inl (kI, 40, .inl q_to)), (ra 10, .inl (kI, 6, .inl q_goal)), (ra 11, .inl (kI, 1019, .inl q_now')), (ra 14, .inl (kI, 12, .inl q_reach))]) A) args0 s 0 0 A) (F0 m 38 ls []) := by
    intro n
    induction n with
    | zero => intro y38_0 g38_7 v38_loc3 v38_loc4 H locs ls hm38; exact absurd hm38 (Nat.not_lt_zero _)
    | succ n ih38 =>
      intro y38_0 g38_7 v38_loc3 v38_loc4 H locs ls hm38 hI38_0 hI38_7 h38_3 h38_4 h38_5 htp_38 hfp_38 hor_38 hirl_38 hP hD hS hl
      refine lv_iload hx hb dX11_use_38 (lv_at hl 4 rfl) ?_
      refine lv_bipush (v := 32) hx hb dX11_use_40 bp_32 ?_
      refine lv_icmp_ge (tgt := 69) hx hb dX11_use_42 rfl (fun c10 => ?_) (fun c10 => ?_)
      · have b11 : iv 32 32 v38_loc4 := iv_leR c10 ivk_32 h38_5 (by decide) (by decide)
        refine lv_iload_n hx hb dX11_use_69 rfl (lv_at hl 3 rfl) ?_
        have hP9 := hP
        have hD9 := hD
        exact W.iret (v := v38_loc3) hx hb hr (fun t ht hW => ⟨⟨v38_loc3, (), rfl, trivial, y38_0, g38_7, hI38_0, hI38_7, (show y38_0 1 = x0 1 from htp_38), (show y38_0 10 = x0 10 from hfp_38), (show y38_0 11 = x0 11 from hor_38), (show y38_0 14 = x0 14 from hirl_38), by rw [ht]; exact hP9, hD9⟩, hS.F ht⟩) hS.2.2 dX11_use_70
      · have b12 : iv 0 31 v38_loc4 := iv_ltL (Int32.not_le.mp c10) h38_5 ivk_32 (by decide) (by decide)
        refine lv_aload_n hx hb dX11_use_45 rfl (lv_at hl 0 rfl) ?_
        refine lv_iload hx hb dX11_use_46 (lv_at hl 4 rfl) ?_
        refine lv_iload_n hx hb dX11_use_48 rfl (lv_at hl 1 rfl) ?_
        obtain ⟨hPc, hDc, hFc, hJn⟩ := cl_a (wc := [(m0, .inr (11, oX11 ra y38_0)), (ra 2, .inl (kI, 8, .inl q_told)), (ra 3, .inl (kI, 24, .inl q_kind)), (ra 4, .inl (kI, 24, .inl q_salt)), (ra 8, .inl (kI, 40, .inl q_from)), (ra 9, .inl (kI, 40, .inl q_to)), (ra 10, .inl (kI, 6, .inl q_goal)), (ra 11, .inl (kI, 1019, .inl g38_7)), (ra 14, .inl (kI, 12, .inl q_reach))]) (wr := []) hP hD hS hA [0, 1, 2, 3, 4, 5, 6, 7, 8] [] rfl rfl (by decide +kernel)
        refine va_callv (va_runV (As := [.int v38_loc4, .int p0]) (rest := []) ⟨hx, hb, hml, hown, hts⟩ (s11_wholeWay l dC dI kB kI kJ kZ kC kS H.size m0 ra y38_0 q_told q_kind q_salt q_from q_to q_goal g38_7 q_reach v38_loc4 p0 (hI38_0) (hq_told) (hq_salt) (hq_from) (hq_to) (hq_goal) (hI38_7) (b12) (h38_3) (hLT)) (cwV 2 hts gX11_use_X11_wholeWay rfl rfl rfl (by decide +kernel) ⟨Nat.le_of_ble_eq_true rfl, Nat.le_of_ble_eq_true rfl⟩) ⟨fun a U g mk q => by obtain ⟨q0, q1, qP, qE, qD⟩ := q; exact ⟨q0, q1, qP, kE_call qE, qD⟩, va_recv hK hP (ci := 11) (q0 := 0) rfl rfl, fun U hU hW => ⟨rfl, by rw [hU], by rw [hU]; exact hPc, kE_warm hW hE, hDc.weaken (fun _ _ _ _ => trivial)⟩⟩ rfl rfl hl.1 rfl (lv_room (Nat.le_of_ble_eq_true rfl)) dX11_use_49 ⟨Nat.le_of_ble_eq_true rfl, Nat.le_of_ble_eq_true rfl⟩) hS (fun q _ h => hFc q h) hFc (fun u t H locs ht hvm w14 hB hz1 hk1 hS => ?_)
        obtain ⟨y15, f16, hq17, hq18, hq19, hq20, hq21, hq22, hP1, hD1⟩ := hB
        try dsimp only at w14
        obtain ⟨hPa, hDa⟩ := hJn (w1 := [(m0, .inr (11, oX11 ra y15)), (ra 2, .inl (kI, 8, .inl q_told)), (ra 3, .inl (kI, 24, .inl q_kind)), (ra 4, .inl (kI, 24, .inl q_salt)), (ra 8, .inl (kI, 40, .inl q_from)), (ra 9, .inl (kI, 40, .inl q_to)), (ra 10, .inl (kI, 6, .inl q_goal)), (ra 11, .inl (kI, 1019, .inl f16)), (ra 14, .inl (kI, 12, .inl q_reach))]) hk1 ht hP1 hD1
        clear hP hD hPc hDc hFc hJn hP1 hD1 hk1
        have hP : va_P (dC, dI) vwCl [(m0, .inr (11, oX11 ra y15)), (ra 2, .inl (kI, 8, .inl q_told)), (ra 3, .inl (kI, 24, .inl q_kind)), (ra 4, .inl (kI, 24, .inl q_salt)), (ra 8, .inl (kI, 40, .inl q_from)), (ra 9, .inl (kI, 40, .inl q_to)), (ra 10, .inl (kI, 6, .inl q_goal)), (ra 11, .inl (kI, 1019, .inl f16)), (ra 14, .inl (kI, 12, .inl q_reach))] H := hPa
        have hD : va_D A [(m0, .inr (11, oX11 ra y15)), (ra 2, .inl (kI, 8, .inl q_told)), (ra 3, .inl (kI, 24, .inl q_kind)), (ra 4, .inl (kI, 24, .inl q_salt)), (ra 8, .inl (kI, 40, .inl q_from)), (ra 9, .inl (kI, 40, .inl q_to)), (ra 10, .inl (kI, 6, .inl q_goal)), (ra 11, .inl (kI, 1019, .inl f16)), (ra 14, .inl (kI, 12, .inl q_reach))] := hDa
        clear hPa hDa
        refine W.widen (k := 0) (n := 0) (Nat.le_of_ble_eq_true rfl) (Nat.le_of_ble_eq_true rfl) ?_
        refine lv_iload_n hx hb dX11_use_52 rfl (lv_at hl 3 rfl) ?_
        refine lv_aload_n hx hb dX11_use_53 rfl (lv_at hl 0 rfl) ?_
        refine va_get (D := (dC, dI)) (ci := 11) (v := .int (y15 19)) (C := RX11) (T := TX11) (N := 61) hx hb hts hin11 hown hK hP 0 rfl rfl 41 (Nat.le_of_ble_eq_true rfl) hw_0 (fun _ h9 => h9) rfl dX11_use_54 ?_
        refine lv_iload_n hx hb dX11_use_57 rfl (lv_at hl 2 rfl) ?_
        refine lv_ishr hx hb dX11_use_58 ?_
        refine lv_topi (fun z23 _ => ?_)
        refine lv_iconst (v := 1) hx hb dX11_use_59 ic_1 ?_
        refine lv_iand hx hb dX11_use_60 ?_
        refine iv_top (a := 0) (b := 1) (iv_and (m := 1) (by decide) (by decide) (by decide)) (fun z24 b25 => ?_)
        refine lv_iadd hx hb dX11_use_61 ?_
        refine lv_topi (fun z26 _ => ?_)
        refine lv_istore_n (lv' := [(3, .int z26), (0, .ref m0), (1, .int p0), (2, .int p1), (4, .int v38_loc4)]) hx hb dX11_use_62 rfl hl (Nat.le_of_ble_eq_true rfl) rfl (fun ls hl => ?_)
        refine lv_iinc (v := v38_loc4 + Int32.ofInt 1) (lv' := [(4, .int (v38_loc4 + Int32.ofInt 1)), (3, .int z26), (0, .ref m0), (1, .int p0), (2, .int p1)]) hx hb dX11_use_63 hl (k := 4) rfl (rfl) (Nat.le_of_ble_eq_true rfl) rfl (fun ls hl => ?_)
        have b27 : iv 1 32 (v38_loc4 + Int32.ofInt 1) := iv_add b12 ivo_1 (by decide) (by decide) (by decide) (by decide)
        refine lv_goto (tgt := 38) hx hb dX11_use_66 rfl ?_
        exact ih38 y15 f16 z26 (v38_loc4 + Int32.ofInt 1) _ _ _ (ms_up (c := 1) (d := 0) b12 hm38 (by decide) (iv_inc 1 b12 (by decide) (by decide) (by decide) (by decide)) (by decide) rfl) (hq17) (hq18) (h38_3) (h38_4) ((iv_w b27 (by decide) (by decide))) ((show y15 1 = x0 1 from hq19.trans (htp_38))) ((show y15 10 = x0 10 from hq20.trans (hfp_38))) ((show y15 11 = x0 11 from hq21.trans (hor_38))) ((show y15 14 = x0 14 from hq22.trans (hirl_38))) (hP) (hD) hS (lv_sub hl [2, 3, 4, 1, 0] rfl)
  refine lv_aload_n hx hb dX11_use_0 rfl (lv_at hl 0 rfl) ?_
  refine lv_iconst (v := 0) hx hb dX11_use_1 ic_0 ?_
  refine va_put (D := (dC, dI)) (ci := 11) (v := .int 0) (ty := .int) (C := RX11) (T := TX11) (N := 61) hx hb hts hin11 tyX11 tyX11_ok nmX11 hown hK hP hD hS 0 rfl rfl 2 (by decide) hw_1 (fun _ h9 => h9) rfl (by decide +kernel) rfl rfl (Nat.le_of_ble_eq_true rfl) dX11_use_2 (fun H locs hPa hDa hS => ?_)
  clear hP hD
  have hP : va_P (dC, dI) vwCl [(m0, .inr (11, oX11 ra (upd x0 0 0))), (ra 2, .inl (kI, 8, .inl q_told)), (ra 3, .inl (kI, 24, .inl q_kind)), (ra 4, .inl (kI, 24, .inl q_salt)), (ra 8, .inl (kI, 40, .inl q_from)), (ra 9, .inl (kI, 40, .inl q_to)), (ra 10, .inl (kI, 6, .inl q_goal)), (ra 11, .inl (kI, 1019, .inl q_now)), (ra 14, .inl (kI, 12, .inl q_reach))] H := hPa
  have hD : va_D A [(m0, .inr (11, oX11 ra (upd x0 0 0))), (ra 2, .inl (kI, 8, .inl q_told)), (ra 3, .inl (kI, 24, .inl q_kind)), (ra 4, .inl (kI, 24, .inl q_salt)), (ra 8, .inl (kI, 40, .inl q_from)), (ra 9, .inl (kI, 40, .inl q_to)), (ra 10, .inl (kI, 6, .inl q_goal)), (ra 11, .inl (kI, 1019, .inl q_now)), (ra 14, .inl (kI, 12, .inl q_reach))] := hDa
  clear hPa hDa
  refine lv_aload_n hx hb dX11_use_5 rfl (lv_at hl 0 rfl) ?_
  refine lv_iload_n hx hb dX11_use_6 rfl (lv_at hl 1 rfl) ?_
  obtain ⟨hPc, hDc, hFc, hJn⟩ := cl_a (wc := [(m0, .inr (11, oX11 ra (upd x0 0 0))), (ra 2, .inl (kI, 8, .inl q_told))]) (wr := [(ra 3, .inl (kI, 24, .inl q_kind)), (ra 4, .inl (kI, 24, .inl q_salt)), (ra 8, .inl (kI, 40, .inl q_from)), (ra 9, .inl (kI, 40, .inl q_to)), (ra 10, .inl (kI, 6, .inl q_goal)), (ra 11, .inl (kI, 1019, .inl q_now)), (ra 14, .inl (kI, 12, .inl q_reach))]) hP hD hS hA [0, 1] [2, 3, 4, 5, 6, 7, 8] rfl rfl (by decide +kernel)
  refine va_calli (va_runV (As := [.int p0]) (rest := []) ⟨hx, hb, hml, hown, hts⟩ (s11_isGoal l dC dI kB kI kJ kZ kC kS H.size m0 ra (upd x0 0 0) q_told p0 ((fI_u hX (k := 0) ((iv_w ivk_0 (by decide) (by decide))))) (hq_told)) (cwV 1 hts gX11_use_X11_isGoal rfl rfl rfl (by decide +kernel) ⟨Nat.le_of_ble_eq_true rfl, Nat.le_of_ble_eq_true rfl⟩) ⟨fun a U g mk q => by obtain ⟨q0, q1, qP, qE, qD⟩ := q; exact ⟨q0, q1, qP, kE_call qE, qD⟩, va_recv hK hP (ci := 11) (q0 := 0) rfl rfl, fun U hU hW => ⟨rfl, by rw [hU], by rw [hU]; exact hPc, kE_warm hW hE, hDc.weaken (fun _ _ _ _ => trivial)⟩⟩ rfl rfl hl.1 rfl (lv_room (Nat.le_of_ble_eq_true rfl)) dX11_use_7 ⟨Nat.le_of_ble_eq_true rfl, Nat.le_of_ble_eq_true rfl⟩) hS (fun q _ h => hFc q h) hFc (fun r28 u t H locs ht hvm w29 hB hz1 hk1 hS => ?_)
  obtain ⟨hP1, hD1⟩ := hB
  try dsimp only at w29
  obtain ⟨hPa, hDa⟩ := hJn (w1 := [(m0, .inr (11, oX11 ra (upd x0 0 0))), (ra 2, .inl (kI, 8, .inl q_told))]) hk1 ht hP1 hD1
  clear hP hD hPc hDc hFc hJn hP1 hD1 hk1
  have hP : va_P (dC, dI) vwCl [(ra 3, .inl (kI, 24, .inl q_kind)), (ra 4, .inl (kI, 24, .inl q_salt)), (ra 8, .inl (kI, 40, .inl q_from)), (ra 9, .inl (kI, 40, .inl q_to)), (ra 10, .inl (kI, 6, .inl q_goal)), (ra 11, .inl (kI, 1019, .inl q_now)), (ra 14, .inl (kI, 12, .inl q_reach)), (m0, .inr (11, oX11 ra (upd x0 0 0))), (ra 2, .inl (kI, 8, .inl q_told))] H := hPa
  have hD : va_D A [(ra 3, .inl (kI, 24, .inl q_kind)), (ra 4, .inl (kI, 24, .inl q_salt)), (ra 8, .inl (kI, 40, .inl q_from)), (ra 9, .inl (kI, 40, .inl q_to)), (ra 10, .inl (kI, 6, .inl q_goal)), (ra 11, .inl (kI, 1019, .inl q_now)), (ra 14, .inl (kI, 12, .inl q_reach)), (m0, .inr (11, oX11 ra (upd x0 0 0))), (ra 2, .inl (kI, 8, .inl q_told))] := hDa
  clear hPa hDa
  refine W.widen (k := 0) (n := 0) (Nat.le_of_ble_eq_true rfl) (Nat.le_of_ble_eq_true rfl) ?_
  refine lv_if_eq (tgt := 27) hx hb dX11_use_10 rfl (fun c30 => ?_) (fun c30 => ?_)
  · have b31 : iv 0 0 r28 := iv_eqL c30 ivk_0
    have hPD9 := cl_s (wc := [(m0, .inr (11, oX11 ra (upd x0 0 0))), (ra 2, .inl (kI, 8, .inl q_told)), (ra 3, .inl (kI, 24, .inl q_kind)), (ra 4, .inl (kI, 24, .inl q_salt)), (ra 8, .inl (kI, 40, .inl q_from)), (ra 9, .inl (kI, 40, .inl q_to)), (ra 10, .inl (kI, 6, .inl q_goal)), (ra 11, .inl (kI, 1019, .inl q_now)), (ra 14, .inl (kI, 12, .inl q_reach))]) hP hD [7, 8, 0, 1, 2, 3, 4, 5, 6] rfl (by decide +kernel)
    exact hJ27 (upd x0 0 0) _ _ _ ((fI_u hX (k := 0) ((iv_w ivk_0 (by decide) (by decide))))) (ivk_0) ((show x0 1 = x0 1 from rfl)) ((show x0 10 = x0 10 from rfl)) ((show x0 11 = x0 11 from rfl)) ((show x0 14 = x0 14 from rfl)) (hPD9.1) (hPD9.2) hS (lv_sub hl [0, 1, 2] rfl)
  · have b32 : iv 1 1 r28 := iv_neLo c30 w29.1 ivk_0 (by decide) (by decide)
    have b33 : iv 0 2 p0 := (w29.2).resolve_left (iv_ne b32 ivk_0 (by decide))
    refine lv_iload_n hx hb dX11_use_13 rfl (lv_at hl 2 rfl) ?_
    refine lv_iconst (v := 0) hx hb dX11_use_14 ic_0 ?_
    refine lv_aload_n hx hb dX11_use_15 rfl (lv_at hl 0 rfl) ?_
    obtain ⟨hPc, hDc, hFc, hJn⟩ := cl_a (wc := [(m0, .inr (11, oX11 ra (upd x0 0 0))), (ra 2, .inl (kI, 8, .inl q_told))]) (wr := [(ra 3, .inl (kI, 24, .inl q_kind)), (ra 4, .inl (kI, 24, .inl q_salt)), (ra 8, .inl (kI, 40, .inl q_from)), (ra 9, .inl (kI, 40, .inl q_to)), (ra 10, .inl (kI, 6, .inl q_goal)), (ra 11, .inl (kI, 1019, .inl q_now)), (ra 14, .inl (kI, 12, .inl q_reach))]) hP hD hS hA [7, 8] [0, 1, 2, 3, 4, 5, 6] rfl rfl (by decide +kernel)
    refine va_calli (va_runV (As := []) (rest := [.int 0, .int p1]) ⟨hx, hb, hml, hown, hts⟩ (s11_links l dC dI kB kI kJ kZ kC kS H.size m0 ra (upd x0 0 0) q_told ((fI_u hX (k := 0) ((iv_w ivk_0 (by decide) (by decide))))) (hq_told)) (cwV 0 hts gX11_use_X11_links rfl rfl rfl (by decide +kernel) ⟨Nat.le_of_ble_eq_true rfl, Nat.le_of_ble_eq_true rfl⟩) ⟨fun a U g mk q => by obtain ⟨q0, q1, qP, qE, qD⟩ := q; exact ⟨q0, q1, qP, kE_call qE, qD⟩, va_recv hK hP (ci := 11) (q0 := 7) rfl rfl, fun U hU hW => ⟨rfl, by rw [hU], by rw [hU]; exact hPc, kE_warm hW hE, hDc.weaken (fun _ _ _ _ => trivial)⟩⟩ rfl rfl hl.1 rfl (lv_room (Nat.le_of_ble_eq_true rfl)) dX11_use_16 ⟨Nat.le_of_ble_eq_true rfl, Nat.le_of_ble_eq_true rfl⟩) hS (fun q _ h => hFc q h) hFc (fun r34 u t H locs ht hvm w35 hB hz1 hk1 hS => ?_)
    obtain ⟨hP1, hD1⟩ := hB
    try dsimp only at w35
    obtain ⟨hPa, hDa⟩ := hJn (w1 := [(m0, .inr (11, oX11 ra (upd x0 0 0))), (ra 2, .inl (kI, 8, .inl q_told))]) hk1 ht hP1 hD1
    clear hP hD hPc hDc hFc hJn hP1 hD1 hk1
    have hP : va_P (dC, dI) vwCl [(ra 3, .inl (kI, 24, .inl q_kind)), (ra 4, .inl (kI, 24, .inl q_salt)), (ra 8, .inl (kI, 40, .inl q_from)), (ra 9, .inl (kI, 40, .inl q_to)), (ra 10, .inl (kI, 6, .inl q_goal)), (ra 11, .inl (kI, 1019, .inl q_now)), (ra 14, .inl (kI, 12, .inl q_reach)), (m0, .inr (11, oX11 ra (upd x0 0 0))), (ra 2, .inl (kI, 8, .inl q_told))] H := hPa
    have hD : va_D A [(ra 3, .inl (kI, 24, .inl q_kind)), (ra 4, .inl (kI, 24, .inl q_salt)), (ra 8, .inl (kI, 40, .inl q_from)), (ra 9, .inl (kI, 40, .inl q_to)), (ra 10, .inl (kI, 6, .inl q_goal)), (ra 11, .inl (kI, 1019, .inl q_now)), (ra 14, .inl (kI, 12, .inl q_reach)), (m0, .inr (11, oX11 ra (upd x0 0 0))), (ra 2, .inl (kI, 8, .inl q_told))] := hDa
    clear hPa hDa
    refine W.widen (k := 0) (n := 0) (Nat.le_of_ble_eq_true rfl) (Nat.le_of_ble_eq_true rfl) ?_
    subst w35
    refine lv_iconst (v := 1) hx hb dX11_use_19 ic_1 ?_
    refine lv_isub hx hb dX11_use_20 ?_
    refine iv_top (a := (-1)) (b := 19) (iv_sub (hq_told 1 : iv 0 20 (q_told 1)) ivk_1 (by decide) (by decide) (by decide) (by decide)) (fun z36 b37 => ?_)
    obtain ⟨hPc, hDc, hFc, hJn⟩ := cl_a (wc := []) (wr := [(ra 3, .inl (kI, 24, .inl q_kind)), (ra 4, .inl (kI, 24, .inl q_salt)), (ra 8, .inl (kI, 40, .inl q_from)), (ra 9, .inl (kI, 40, .inl q_to)), (ra 10, .inl (kI, 6, .inl q_goal)), (ra 11, .inl (kI, 1019, .inl q_now)), (ra 14, .inl (kI, 12, .inl q_reach)), (m0, .inr (11, oX11 ra (upd x0 0 0))), (ra 2, .inl (kI, 8, .inl q_told))]) hP hD hS hA [] [0, 1, 2, 3, 4, 5, 6, 7, 8] rfl rfl (by decide +kernel)
    refine va_calli (va_runS (As := [.int p1, .int 0, .int z36]) (rest := []) ⟨hx, hb, hml, hown, hts⟩ (s11_isIn l dC dI kB kI kJ kZ kC kS H.size p1 0 z36) (va_cwS 3 hts gX11_use_X11_isIn rfl rfl rfl (by decide +kernel) ⟨Nat.le_of_ble_eq_true rfl, Nat.le_of_ble_eq_true rfl⟩) ⟨fun a U g mk q => by obtain ⟨q0, q1, qP, qE, qD⟩ := q; exact ⟨q0, q1, qP, kE_call qE, qD⟩, fun U hU hW => ⟨rfl, by rw [hU], by rw [hU]; exact hPc, kE_warm hW hE, hDc.weaken (fun _ _ _ _ => trivial)⟩⟩ rfl rfl hl.1 rfl (lv_room (Nat.le_of_ble_eq_true rfl)) dX11_use_21 ⟨Nat.le_of_ble_eq_true rfl, Nat.le_of_ble_eq_true rfl⟩) hS (fun q _ h => hFc q h) hFc (fun r38 u t H locs ht hvm w39 hB hz1 hk1 hS => ?_)
    obtain ⟨hP1, hD1⟩ := hB
    try dsimp only at w39
    obtain ⟨hPa, hDa⟩ := hJn (w1 := []) hk1 ht hP1 hD1
    clear hP hD hPc hDc hFc hJn hP1 hD1 hk1
    have hP : va_P (dC, dI) vwCl [(ra 3, .inl (kI, 24, .inl q_kind)), (ra 4, .inl (kI, 24, .inl q_salt)), (ra 8, .inl (kI, 40, .inl q_from)), (ra 9, .inl (kI, 40, .inl q_to)), (ra 10, .inl (kI, 6, .inl q_goal)), (ra 11, .inl (kI, 1019, .inl q_now)), (ra 14, .inl (kI, 12, .inl q_reach)), (m0, .inr (11, oX11 ra (upd x0 0 0))), (ra 2, .inl (kI, 8, .inl q_told))] H := hPa
    have hD : va_D A [(ra 3, .inl (kI, 24, .inl q_kind)), (ra 4, .inl (kI, 24, .inl q_salt)), (ra 8, .inl (kI, 40, .inl q_from)), (ra 9, .inl (kI, 40, .inl q_to)), (ra 10, .inl (kI, 6, .inl q_goal)), (ra 11, .inl (kI, 1019, .inl q_now)), (ra 14, .inl (kI, 12, .inl q_reach)), (m0, .inr (11, oX11 ra (upd x0 0 0))), (ra 2, .inl (kI, 8, .inl q_told))] := hDa
    clear hPa hDa
    refine W.widen (k := 0) (n := 0) (Nat.le_of_ble_eq_true rfl) (Nat.le_of_ble_eq_true rfl) ?_
    refine lv_if_ne (tgt := 33) hx hb dX11_use_24 rfl (fun c40 => ?_) (fun c40 => ?_)
    · have b41 : iv 1 1 r38 := iv_neLo c40 w39.1 ivk_0 (by decide) (by decide)
      have hr42 := (w39.2).resolve_left (iv_ne b41 ivk_0 (by decide))
      have b43 : iv 0 19 p1 := iv_cap (in_iv hr42 ivk_0 b37) (iv_t p1) (by decide) (by decide)
      refine lv_iconst (v := 0) hx hb dX11_use_33 ic_0 ?_
      refine lv_istore_n (lv' := [(3, .int 0), (0, .ref m0), (1, .int p0), (2, .int p1)]) hx hb dX11_use_34 rfl hl (Nat.le_of_ble_eq_true rfl) rfl (fun ls hl => ?_)
      refine lv_iconst (v := 0) hx hb dX11_use_35 ic_0 ?_
      refine lv_istore (lv' := [(4, .int 0), (3, .int 0), (0, .ref m0), (1, .int p0), (2, .int p1)]) hx hb dX11_use_36 hl (Nat.le_of_ble_eq_true rfl) rfl (fun ls hl => ?_)
      have hPD9 := cl_s (wc := [(m0, .inr (11, oX11 ra (upd x0 0 0))), (ra 2, .inl (kI, 8, .inl q_told)), (ra 3, .inl (kI, 24, .inl q_kind)), (ra 4, .inl (kI, 24, .inl q_salt)), (ra 8, .inl (kI, 40, .inl q_from)), (ra 9, .inl (kI, 40, .inl q_to)), (ra 10, .inl (kI, 6, .inl q_goal)), (ra 11, .inl (kI, 1019, .inl q_now)), (ra 14, .inl (kI, 12, .inl q_reach))]) hP hD [7, 8, 0, 1, 2, 3, 4, 5, 6] rfl (by decide +kernel)
      exact hJ38 _ (upd x0 0 0) q_now 0 0 _ _ _ (Nat.lt_succ_self _) ((fI_u hX (k := 0) ((iv_w ivk_0 (by decide) (by decide))))) (hq_now) (b33) (b43) ((iv_w ivk_0 (by decide) (by decide))) ((show x0 1 = x0 1 from rfl)) ((show x0 10 = x0 10 from rfl)) ((show x0 11 = x0 11 from rfl)) ((show x0 14 = x0 14 from rfl)) (hPD9.1) (hPD9.2) hS (lv_sub hl [2, 3, 4, 1, 0] rfl)
    · have b44 : iv 0 0 r38 := iv_eqL c40 ivk_0
      have hPD9 := cl_s (wc := [(m0, .inr (11, oX11 ra (upd x0 0 0))), (ra 2, .inl (kI, 8, .inl q_told)), (ra 3, .inl (kI, 24, .inl q_kind)), (ra 4, .inl (kI, 24, .inl q_salt)), (ra 8, .inl (kI, 40, .inl q_from)), (ra 9, .inl (kI, 40, .inl q_to)), (ra 10, .inl (kI, 6, .inl q_goal)), (ra 11, .inl (kI, 1019, .inl q_now)), (ra 14, .inl (kI, 12, .inl q_reach))]) hP hD [7, 8, 0, 1, 2, 3, 4, 5, 6] rfl (by decide +kernel)
      exact hJ27 (upd x0 0 0) _ _ _ ((fI_u hX (k := 0) ((iv_w ivk_0 (by decide) (by decide))))) (ivk_0) ((show x0 1 = x0 1 from rfl)) ((show x0 10 = x0 10 from rfl)) ((show x0 11 = x0 11 from rfl)) ((show x0 14 = x0 14 from rfl)) (hPD9.1) (hPD9.2) hS (lv_sub hl [0, 1, 2] rfl)
def rm_s11_cover : Room := { frames := 4, cells := 0, slots := 0, locals := 102 }
set_option maxHeartbeats 4000000 in
set_option maxRecDepth 100000 in
theorem s11_cover (l : Launch) (dC : Nat → ClassId) (dI : Nat → Nat → Nat) (kB kI kJ kZ kC kS : ClassId) (sz : Nat) (m0 : Nat) (ra : Nat → Nat) (x0 : Nat → Int32) (q_told : Nat → Int32) (q_kind : Nat → Int32) (q_salt : Nat → Int32) (q_from : Nat → Int32) (q_to : Nat → Int32) (q_goal : Nat → Int32) (q_now : Nat → Int32) (q_reach : Nat → Int32) (p0 : Int32) (hX : fI lX11 hX11 x0) (hq_told : fI lTold hTold q_told) (hq_salt : fI (fun _ => 0) (fun _ => 15) q_salt) (hq_from : fI (fun _ => 0) (fun _ => 11) q_from) (hq_to : fI (fun _ => 0) (fun _ => 11) q_to) (hq_goal : fI (fun _ => 0) (fun _ => 11) q_goal) (hq_now : fI lNow hNow q_now) (hLT : ∀ j : Nat, (j : Int) < (q_told 1).toInt → (q_from j).toInt < (q_to j).toInt) : Met l yX11_cover wsX11_cover rm_s11_cover (va_Pc [.ref m0, .int p0] (fun U => U.heap.size = sz ∧ va_P (dC, dI) vwCl [(m0, .inr (11, oX11 ra x0)), (ra 2, .inl (kI, 8, .inl q_told)), (ra 3, .inl (kI, 24, .inl q_kind)), (ra 4, .inl (kI, 24, .inl q_salt)), (ra 8, .inl (kI, 40, .inl q_from)), (ra 9, .inl (kI, 40, .inl q_to)), (ra 10, .inl (kI, 6, .inl q_goal)), (ra 11, .inl (kI, 1019, .inl q_now)), (ra 14, .inl (kI, 12, .inl q_reach))] U.heap ∧ kE dC dI kB kI kJ kZ kC kS U ∧ va_D (fun _ => True) [(m0, .inr (11, oX11 ra x0)), (ra 2, .inl (kI, 8, .inl q_told)), (ra 3, .inl (kI, 24, .inl q_kind)), (ra 4, .inl (kI, 24, .inl q_salt)), (ra 8, .inl (kI, 40, .inl q_from)), (ra 9, .inl (kI, 40, .inl q_to)), (ra 10, .inl (kI, 6, .inl q_goal)), (ra 11, .inl (kI, 1019, .inl q_now)), (ra 14, .inl (kI, 12, .inl q_reach))])) (va_Qi (fun (r : Int32) (_ : Unit) => iv (-1) 32 r) (fun _ t => ∃ (x0' : Nat → Int32) (q_now' : Nat → Int32), fI lX11 hX11 x0' ∧ fI lNow hNow q_now' ∧ (x0' 1 = x0 1) ∧ (x0' 10 = x0 10) ∧ (x0' 11 = x0 11) ∧ (x0' 14 = x0 14) ∧ va_P (dC, dI) vwCl [(m0, .inr (11, oX11 ra x0')), (ra 2, .inl (kI, 8, .inl q_told)), (ra 3, .inl (kI, 24, .inl q_kind)), (ra 4, .inl (kI, 24, .inl q_salt)), (ra 8, .inl (kI, 40, .inl q_from)), (ra 9, .inl (kI, 40, .inl q_to)), (ra 10, .inl (kI, 6, .inl q_goal)), (ra 11, .inl (kI, 1019, .inl q_now')), (ra 14, .inl (kI, 12, .inl q_reach))] t.heap ∧ va_D (va_A [(m0, .inr (11, oX11 ra x0)), (ra 2, .inl (kI, 8, .inl q_told)), (ra 3, .inl (kI, 24, .inl q_kind)), (ra 4, .inl (kI, 24, .inl q_salt)), (ra 8, .inl (kI, 40, .inl q_from)), (ra 9, .inl (kI, 40, .inl q_to)), (ra 10, .inl (kI, 6, .inl q_goal)), (ra 11, .inl (kI, 1019, .inl q_now)), (ra 14, .inl (kI, 12, .inl q_reach))] sz) [(m0, .inr (11, oX11 ra x0')), (ra 2, .inl (kI, 8, .inl q_told)), (ra 3, .inl (kI, 24, .inl q_kind)), (ra 4, .inl (kI, 24, .inl q_salt)), (ra 8, .inl (kI, 40, .inl q_from)), (ra 9, .inl (kI, 40, .inl q_to)), (ra 10, .inl (kI, 6, .inl q_goal)), (ra 11, .inl (kI, 1019, .inl q_now')), (ra 14, .inl (kI, 12, .inl q_reach))]) (va_A [(m0, .inr (11, oX11 ra x0)), (ra 2, .inl (kI, 8, .inl q_told)), (ra 3, .inl (kI, 24, .inl q_kind)), (ra 4, .inl (kI, 24, .inl q_salt)), (ra 8, .inl (kI, 40, .inl q_from)), (ra 9, .inl (kI, 40, .inl q_to)), (ra 10, .inl (kI, 6, .inl q_goal)), (ra 11, .inl (kI, 1019, .inl q_now)), (ra 14, .inl (kI, 12, .inl q_reach))] sz)) 0 0 (va_A [(m0, .inr (11, oX11 ra x0)), (ra 2, .inl (kI, 8, .inl q_told)), (ra 3, .inl (kI, 24, .inl q_kind)), (ra 4, .inl (kI, 24, .inl q_salt)), (ra 8, .inl (kI, 40, .inl q_from)), (ra 9, .inl (kI, 40, .inl q_to)), (ra 10, .inl (kI, 6, .inl q_goal)), (ra 11, .inl (kI, 1019, .inl q_now)), (ra 14, .inl (kI, 12, .inl q_reach))] sz) := by
  refine Met.ofW (cc := cX11_cover) (maxL := 4) (ret := (some .int)) (by decide) rfl ?_
  intro p e s m args0 below meth c s₁ B hml hv
  obtain ⟨hargs, hsz, hP, hE, hD0⟩ := hv
  have hx := B.exec
  have hb := B.bytes
  have hr := B.returns
  have hts := atoms_spec (ws := wsX11_cover) B.pre
  have hown : s.vm.findClass RX11 = some m.cls := findClass_of_methodNamed B.named
  have hlocks := B.notSynchronized
  have hK := hE.1
  have hin11 : ∀ w ∈ wsX110, w ∈ wsX11_cover := fun _ h9 => List.mem_cons_of_mem _ (List.mem_append_right _ h9)
  have hw_0 := hts (.fieldLink RX11 440 "PathProberModel" "wayLinks" "I") (List.mem_of_getElem? (i := 5) rfl)
  have hw_1 := hts (.fieldLink RX11 73 "PathProberModel" "reach" "[I") (List.mem_of_getElem? (i := 2) rfl)
  have hw_2 := hts (.fieldLink RX11 53 "PathProberModel" "from" "[I") (List.mem_of_getElem? (i := 3) rfl)
  have hw_3 := hts (.fieldLink RX11 58 "PathProberModel" "goal" "[I") (List.mem_of_getElem? (i := 4) rfl)
  have hw_4 := hts (.fieldLink RX11 142 "PathProberModel" "code" "I") (List.mem_of_getElem? (i := 1) rfl)
  subst hsz
  have hD := hD0.self (sz := s.heap.size)
  generalize hAe : va_A [(m0, .inr (11, oX11 ra x0)), (ra 2, .inl (kI, 8, .inl q_told)), (ra 3, .inl (kI, 24, .inl q_kind)), (ra 4, .inl (kI, 24, .inl q_salt)), (ra 8, .inl (kI, 40, .inl q_from)), (ra 9, .inl (kI, 40, .inl q_to)), (ra 10, .inl (kI, 6, .inl q_goal)), (ra 11, .inl (kI, 1019, .inl q_now)), (ra 14, .inl (kI, 12, .inl q_reach))] s.heap.size = A at hD ⊢
  have hA : ∀ q : Nat, s.heap.size ≤ q → A q := fun q h => by rw [← hAe]; exact Or.inr h
  have hS : va_S A s.heap s.heap [] := va_S.rf
  have hP : va_P (dC, dI) vwCl [(m0, .inr (11, oX11 ra x0)), (ra 2, .inl (kI, 8, .inl q_told)), (ra 3, .inl (kI, 24, .inl q_kind)), (ra 4, .inl (kI, 24, .inl q_salt)), (ra 8, .inl (kI, 40, .inl q_from)), (ra 9, .inl (kI, 40, .inl q_to)), (ra 10, .inl (kI, 6, .inl q_goal)), (ra 11, .inl (kI, 1019, .inl q_now)), (ra 14, .inl (kI, 12, .inl q_reach))] s.heap := hP
  have hl := lv_entry ([.ref m0, .int p0]) (n := 4) (Nat.le_of_ble_eq_true rfl)
  have hla : entryFrame m args0 4 = entryFrame m ([.ref m0, .int p0] : List Value).toArray 4 := by rw [hargs]
  rw [hla, lg_entry_eq]
  generalize (lg_sl ([.ref m0, .int p0]) ++ List.replicate (4 - (lg_sl ([.ref m0, .int p0])).length) Slot.unset).toArray = ls at hl ⊢
  have hl : lv_has ls 4 [(0, .ref m0), (1, .int p0)] := hl
  have hJ125 : ∀ (y125_0 : Nat → Int32) (g125_7 : Nat → Int32) (v125_loc2 : Int32) (v125_loc3 : Int32) (H : Heap) (locs : List Loc) (ls : Array Slot), fI lX11 hX11 y125_0 → fI lNow hNow g125_7 → iv 0 2 p0 → iv 0 32 v125_loc3 → (y125_0 1 = x0 1) → (y125_0 10 = x0 10) → (y125_0 11 = x0 11) → (y125_0 14 = x0 14) → va_P (dC, dI) vwCl [(m0, .inr (11, oX11 ra y125_0)), (ra 2, .inl (kI, 8, .inl q_told)), (ra 3, .inl (kI, 24, .inl q_kind)), (ra 4, .inl (kI, 24, .inl q_salt)), (ra 8, .inl (kI, 40, .inl q_from)), (ra 9, .inl (kI, 40, .inl q_to)), (ra 10, .inl (kI, 6, .inl q_goal)), (ra 11, .inl (kI, 1019, .inl g125_7)), (ra 14, .inl (kI, 12, .inl q_reach))] H → va_D A [(m0, .inr (11, oX11 ra y125_0)), (ra 2, .inl (kI, 8, .inl q_told)), (ra 3, .inl (kI, 24, .inl q_kind)), (ra 4, .inl (kI, 24, .inl q_salt)), (ra 8, .inl (kI, 40, .inl q_from)), (ra 9, .inl (kI, 40, .inl q_to)), (ra 10, .inl (kI, 6, .inl q_goal)), (ra 11, .inl (kI, 1019, .inl g125_7)), (ra 14, .inl (kI, 12, .inl q_reach))] → va_S A s.heap H locs → lv_has ls 4 [(0, .ref m0), (1, .int p0), (2, .int v125_loc2), (3, .int v125_loc3)] → W p l e (headSpec wsX11_cover rm_s11_cover).room s m args0 below meth c H locs (0) (0) (MQ below (va_Qi (fun (r : Int32) (_ : Unit) => iv (-1) 32 r) (fun _ t => ∃ (x0' : Nat → Int32) (q_now' : Nat → Int32), fI lX11 hX11 x0' ∧ fI lNow hNow q_now' ∧ (x0' 1 = x0 1) ∧ (x0' 10 = x0 10) ∧ (x0' 11 = x0 11) ∧ (x0' 14 = x0 14) ∧ va_P (dC, dI) vwCl [(m0, .inr (11, oX11 ra x0')), (ra 2, .inl (kI, 8, .inl q_told)), (ra 3, .inl (kI, 24, .inl q_kind)), (ra 4, .inl (kI, 24, .inl q_salt)), (ra 8, .inl (kI, 40, .inl q_from)), (ra 9, .inl (kI, 40, .inl q_to)), (ra 10, .inl (kI, 6, .inl q_goal)), (ra 11, .inl (kI, 1019, .inl q_now')), (ra 14, .inl (kI, 12, .inl q_reach))] t.heap ∧ va_D A [(m0, .inr (11, oX11 ra x0')), (ra 2, .inl (kI, 8, .inl q_told)), (ra 3, .inl (kI, 24, .inl q_kind)), (ra 4, .inl (kI, 24, .inl q_salt)), (ra 8, .inl (kI, 40, .inl q_from)), (ra 9, .inl (kI, 40, .inl q_to)), (ra 10, .inl (kI, 6, .inl q_goal)), (ra 11, .inl (kI, 1019, .inl q_now')), (ra 14, .inl (kI, 12, .inl q_reach))]) A) args0 s 0 0 A) (F0 m 125 ls []) := by
    intro y125_0 g125_7 v125_loc2 v125_loc3 H locs ls hI125_0 hI125_7 h125_3 h125_4 htp_125 hfp_125 hor_125 hirl_125 hP hD hS hl
    refine lv_iload_n hx hb dX11_cover_125 rfl (lv_at hl 2 rfl) ?_
    refine lv_if_ne (tgt := 133) hx hb dX11_cover_126 rfl (fun c1 => ?_) (fun c1 => ?_)
    · refine lv_iconst (v := (-1)) hx hb dX11_cover_133 ic_m1 ?_
      have hP9 := hP
      have hD9 := hD
      exact W.iret (v := (-1)) hx hb hr (fun t ht hW => ⟨⟨(-1), (), rfl, (iv_w ivk_m1 (by decide) (by decide)), y125_0, g125_7, hI125_0, hI125_7, (show y125_0 1 = x0 1 from htp_125), (show y125_0 10 = x0 10 from hfp_125), (show y125_0 11 = x0 11 from hor_125), (show y125_0 14 = x0 14 from hirl_125), by rw [ht]; exact hP9, hD9⟩, hS.F ht⟩) hS.2.2 dX11_cover_134
    · have b2 : iv 0 0 v125_loc2 := iv_eqL c1 ivk_0
      refine lv_iconst (v := 0) hx hb dX11_cover_129 ic_0 ?_
      refine lv_goto (tgt := 134) hx hb dX11_cover_130 rfl ?_
      have hP9 := hP
      have hD9 := hD
      exact W.iret (v := 0) hx hb hr (fun t ht hW => ⟨⟨0, (), rfl, (iv_w ivk_0 (by decide) (by decide)), y125_0, g125_7, hI125_0, hI125_7, (show y125_0 1 = x0 1 from htp_125), (show y125_0 10 = x0 10 from hfp_125), (show y125_0 11 = x0 11 from hor_125), (show y125_0 14 = x0 14 from hirl_125), by rw [ht]; exact hP9, hD9⟩, hS.F ht⟩) hS.2.2 dX11_cover_134
  have hJ86 : ∀ (n : Nat) (y86_0 : Nat → Int32) (g86_7 : Nat → Int32) (v86_loc2 : Int32) (v86_loc3 : Int32) (H : Heap) (locs : List Loc) (ls : Array Slot), (32 - v86_loc3.toInt).toNat < n → fI lX11 hX11 y86_0 → fI lNow hNow g86_7 → iv 0 2 p0 → iv 0 32 v86_loc3 → (y86_0 1 = x0 1) → (y86_0 10 = x0 10) → (y86_0 11 = x0 11) → (y86_0 14 = x0 14) → va_P (dC, dI) vwCl [(m0, .inr (11, oX11 ra y86_0)), (ra 2, .inl (kI, 8, .inl q_told)), (ra 3, .inl (kI, 24, .inl q_kind)), (ra 4, .inl (kI, 24, .inl q_salt)), (ra 8, .inl (kI, 40, .inl q_from)), (ra 9, .inl (kI, 40, .inl q_to)), (ra 10, .inl (kI, 6, .inl q_goal)), (ra 11, .inl (kI, 1019, .inl g86_7)), (ra 14, .inl (kI, 12, .inl q_reach))] H → va_D A [(m0, .inr (11, oX11 ra y86_0)), (ra 2, .inl (kI, 8, .inl q_told)), (ra 3, .inl (kI, 24, .inl q_kind)), (ra 4, .inl (kI, 24, .inl q_salt)), (ra 8, .inl (kI, 40, .inl q_from)), (ra 9, .inl (kI, 40, .inl q_to)), (ra 10, .inl (kI, 6, .inl q_goal)), (ra 11, .inl (kI, 1019, .inl g86_7)), (ra 14, .inl (kI, 12, .inl q_reach))] → va_S A s.heap H locs → lv_has ls 4 [(0, .ref m0), (1, .int p0), (2, .int v86_loc2), (3, .int v86_loc3)] → W p l e (headSpec wsX11_cover rm_s11_cover).room s m args0 below meth c H locs (0) (0) (MQ below (va_Qi (fun (r : Int32) (_ : Unit) => iv (-1) 32 r) (fun _ t => ∃ (x0' : Nat → Int32) (q_now' : Nat → Int32), fI lX11 hX11 x0' ∧ fI lNow hNow q_now' ∧ (x0' 1 = x0 1) ∧ (x0' 10 = x0 10) ∧ (x0' 11 = x0 11) ∧ (x0' 14 = x0 14) ∧ va_P (dC, dI) vwCl [(m0, .inr (11, oX11 ra x0')), (ra 2, .inl (kI, 8, .inl q_told)), (ra 3, .inl (kI, 24, .inl q_kind)), (ra 4, .inl (kI, 24, .inl q_salt)), (ra 8, .inl (kI, 40, .inl q_from)), (ra 9, .inl (kI, 40, .inl q_to)), (ra 10, .inl (kI, 6, .inl q_goal)), (ra 11, .inl (kI, 1019, .inl q_now')), (ra 14, .inl (kI, 12, .inl q_reach))] t.heap ∧ va_D A [(m0, .inr (11, oX11 ra x0')), (ra 2, .inl (kI, 8, .inl q_told)), (ra 3, .inl (kI, 24, .inl q_kind)), (ra 4, .inl (kI, 24, .inl q_salt)), (ra 8, .inl (kI, 40, .inl q_from)), (ra 9, .inl (kI, 40, .inl q_to)), (ra 10, .inl (kI, 6, .inl q_goal)), (ra 11, .inl (kI, 1019, .inl q_now')), (ra 14, .inl (kI, 12, .inl q_reach))]) A) args0 s 0 0 A) (F0 m 86 ls []) := by
    intro n
    induction n with
    | zero => intro y86_0 g86_7 v86_loc2 v86_loc3 H locs ls hm86; exact absurd hm86 (Nat.not_lt_zero _)
    | succ n ih86 =>
      intro y86_0 g86_7 v86_loc2 v86_loc3 H locs ls hm86 hI86_0 hI86_7 h86_3 h86_4 htp_86 hfp_86 hor_86 hirl_86 hP hD hS hl
      refine lv_iload_n hx hb dX11_cover_86 rfl (lv_at hl 3 rfl) ?_
      refine lv_bipush (v := 32) hx hb dX11_cover_87 bp_32 ?_
      refine lv_icmp_ge (tgt := 125) hx hb dX11_cover_89 rfl (fun c3 => ?_) (fun c3 => ?_)
      · have b4 : iv 32 32 v86_loc3 := iv_leR c3 ivk_32 h86_4 (by decide) (by decide)
        exact hJ125 y86_0 g86_7 v86_loc2 v86_loc3 _ _ _ (hI86_0) (hI86_7) (h86_3) ((iv_w b4 (by decide) (by decide))) ((show y86_0 1 = x0 1 from htp_86)) ((show y86_0 10 = x0 10 from hfp_86)) ((show y86_0 11 = x0 11 from hor_86)) ((show y86_0 14 = x0 14 from hirl_86)) (hP) (hD) hS (lv_sub hl [0, 1, 2, 3] rfl)
      · have b5 : iv 0 31 v86_loc3 := iv_ltL (Int32.not_le.mp c3) h86_4 ivk_32 (by decide) (by decide)
        refine lv_iload_n hx hb dX11_cover_92 rfl (lv_at hl 2 rfl) ?_
        refine lv_if_eq (tgt := 125) hx hb dX11_cover_93 rfl (fun c6 => ?_) (fun c6 => ?_)
        · have b7 : iv 0 0 v86_loc2 := iv_eqL c6 ivk_0
          exact hJ125 y86_0 g86_7 v86_loc2 v86_loc3 _ _ _ (hI86_0) (hI86_7) (h86_3) ((iv_w b5 (by decide) (by decide))) ((show y86_0 1 = x0 1 from htp_86)) ((show y86_0 10 = x0 10 from hfp_86)) ((show y86_0 11 = x0 11 from hor_86)) ((show y86_0 14 = x0 14 from hirl_86)) (hP) (hD) hS (lv_sub hl [0, 1, 2, 3] rfl)
        · refine lv_aload_n hx hb dX11_cover_96 rfl (lv_at hl 0 rfl) ?_
          refine lv_iload_n hx hb dX11_cover_97 rfl (lv_at hl 3 rfl) ?_
          refine lv_iload_n hx hb dX11_cover_98 rfl (lv_at hl 1 rfl) ?_
          obtain ⟨hPc, hDc, hFc, hJn⟩ := cl_a (wc := [(m0, .inr (11, oX11 ra y86_0)), (ra 2, .inl (kI, 8, .inl q_told)), (ra 3, .inl (kI, 24, .inl q_kind)), (ra 4, .inl (kI, 24, .inl q_salt)), (ra 8, .inl (kI, 40, .inl q_from)), (ra 9, .inl (kI, 40, .inl q_to)), (ra 10, .inl (kI, 6, .inl q_goal)), (ra 11, .inl (kI, 1019, .inl g86_7)), (ra 14, .inl (kI, 12, .inl q_reach))]) (wr := []) hP hD hS hA [0, 1, 2, 3, 4, 5, 6, 7, 8] [] rfl rfl (by decide +kernel)
          refine va_callv (va_runV (As := [.int v86_loc3, .int p0]) (rest := []) ⟨hx, hb, hml, hown, hts⟩ (s11_wholeWay l dC dI kB kI kJ kZ kC kS H.size m0 ra y86_0 q_told q_kind q_salt q_from q_to q_goal g86_7 q_reach v86_loc3 p0 (hI86_0) (hq_told) (hq_salt) (hq_from) (hq_to) (hq_goal) (hI86_7) (b5) (h86_3) (hLT)) (cwV 2 hts gX11_cover_X11_wholeWay rfl rfl rfl (by decide +kernel) ⟨Nat.le_of_ble_eq_true rfl, Nat.le_of_ble_eq_true rfl⟩) ⟨fun a U g mk q => by obtain ⟨q0, q1, qP, qE, qD⟩ := q; exact ⟨q0, q1, qP, kE_call qE, qD⟩, va_recv hK hP (ci := 11) (q0 := 0) rfl rfl, fun U hU hW => ⟨rfl, by rw [hU], by rw [hU]; exact hPc, kE_warm hW hE, hDc.weaken (fun _ _ _ _ => trivial)⟩⟩ rfl rfl hl.1 rfl (lv_room (Nat.le_of_ble_eq_true rfl)) dX11_cover_99 ⟨Nat.le_of_ble_eq_true rfl, Nat.le_of_ble_eq_true rfl⟩) hS (fun q _ h => hFc q h) hFc (fun u t H locs ht hvm w9 hB hz1 hk1 hS => ?_)
          obtain ⟨y10, f11, hq12, hq13, hq14, hq15, hq16, hq17, hP1, hD1⟩ := hB
          try dsimp only at w9
          obtain ⟨hPa, hDa⟩ := hJn (w1 := [(m0, .inr (11, oX11 ra y10)), (ra 2, .inl (kI, 8, .inl q_told)), (ra 3, .inl (kI, 24, .inl q_kind)), (ra 4, .inl (kI, 24, .inl q_salt)), (ra 8, .inl (kI, 40, .inl q_from)), (ra 9, .inl (kI, 40, .inl q_to)), (ra 10, .inl (kI, 6, .inl q_goal)), (ra 11, .inl (kI, 1019, .inl f11)), (ra 14, .inl (kI, 12, .inl q_reach))]) hk1 ht hP1 hD1
          clear hP hD hPc hDc hFc hJn hP1 hD1 hk1
          have hP : va_P (dC, dI) vwCl [(m0, .inr (11, oX11 ra y10)), (ra 2, .inl (kI, 8, .inl q_told)), (ra 3, .inl (kI, 24, .inl q_kind)), (ra 4, .inl (kI, 24, .inl q_salt)), (ra 8, .inl (kI, 40, .inl q_from)), (ra 9, .inl (kI, 40, .inl q_to)), (ra 10, .inl (kI, 6, .inl q_goal)), (ra 11, .inl (kI, 1019, .inl f11)), (ra 14, .inl (kI, 12, .inl q_reach))] H := hPa
          have hD : va_D A [(m0, .inr (11, oX11 ra y10)), (ra 2, .inl (kI, 8, .inl q_told)), (ra 3, .inl (kI, 24, .inl q_kind)), (ra 4, .inl (kI, 24, .inl q_salt)), (ra 8, .inl (kI, 40, .inl q_from)), (ra 9, .inl (kI, 40, .inl q_to)), (ra 10, .inl (kI, 6, .inl q_goal)), (ra 11, .inl (kI, 1019, .inl f11)), (ra 14, .inl (kI, 12, .inl q_reach))] := hDa
          clear hPa hDa
          refine W.widen (k := 0) (n := 0) (Nat.le_of_ble_eq_true rfl) (Nat.le_of_ble_eq_true rfl) ?_
          refine lv_iload_n hx hb dX11_cover_102 rfl (lv_at hl 2 rfl) ?_
          refine lv_aload_n hx hb dX11_cover_103 rfl (lv_at hl 0 rfl) ?_
          refine va_get (D := (dC, dI)) (ci := 11) (v := .int (y10 19)) (C := RX11) (T := TX11) (N := 61) hx hb hts hin11 hown hK hP 0 rfl rfl 41 (Nat.le_of_ble_eq_true rfl) hw_0 (fun _ h9 => h9) rfl dX11_cover_104 ?_
          refine lv_iconst (v := (-1)) hx hb dX11_cover_107 ic_m1 ?_
          refine lv_ixor hx hb dX11_cover_108 ?_
          refine lv_topi (fun z18 _ => ?_)
          refine lv_iand hx hb dX11_cover_109 ?_
          refine lv_topi (fun z19 _ => ?_)
          refine lv_istore_n (lv' := [(2, .int z19), (0, .ref m0), (1, .int p0), (3, .int v86_loc3)]) hx hb dX11_cover_110 rfl hl (Nat.le_of_ble_eq_true rfl) rfl (fun ls hl => ?_)
          refine lv_iload_n hx hb dX11_cover_111 rfl (lv_at hl 0 rfl) ?_
          refine lv_if_ne (tgt := 119) hx hb dX11_cover_112 rfl (fun c20 => ?_) (fun c20 => ?_)
          · refine lv_iinc (v := v86_loc3 + Int32.ofInt 1) (lv' := [(3, .int (v86_loc3 + Int32.ofInt 1)), (2, .int z19), (0, .ref m0), (1, .int p0)]) hx hb dX11_cover_119 hl (k := 3) rfl (rfl) (Nat.le_of_ble_eq_true rfl) rfl (fun ls hl => ?_)
            have b21 : iv 1 32 (v86_loc3 + Int32.ofInt 1) := iv_add b5 ivo_1 (by decide) (by decide) (by decide) (by decide)
            refine lv_goto (tgt := 86) hx hb dX11_cover_122 rfl ?_
            exact ih86 y10 f11 z19 (v86_loc3 + Int32.ofInt 1) _ _ _ (ms_up (c := 1) (d := 0) b5 hm86 (by decide) (iv_inc 1 b5 (by decide) (by decide) (by decide) (by decide)) (by decide) rfl) (hq12) (hq13) (h86_3) ((iv_w b21 (by decide) (by decide))) ((show y10 1 = x0 1 from hq14.trans (htp_86))) ((show y10 10 = x0 10 from hq15.trans (hfp_86))) ((show y10 11 = x0 11 from hq16.trans (hor_86))) ((show y10 14 = x0 14 from hq17.trans (hirl_86))) (hP) (hD) hS (lv_sub hl [2, 3, 1, 0] rfl)
          · have b22 : iv 0 0 z19 := iv_eqL c20 ivk_0
            refine lv_iload_n hx hb dX11_cover_115 rfl (lv_at hl 3 rfl) ?_
            refine lv_iconst (v := 1) hx hb dX11_cover_116 ic_1 ?_
            refine lv_iadd hx hb dX11_cover_117 ?_
            refine iv_top (a := 1) (b := 32) (iv_add b5 ivk_1 (by decide) (by decide) (by decide) (by decide)) (fun z23 b24 => ?_)
            have hP9 := hP
            have hD9 := hD
            exact W.iret (v := z23) hx hb hr (fun t ht hW => ⟨⟨z23, (), rfl, (iv_w b24 (by decide) (by decide)), y10, f11, hq12, hq13, (show y10 1 = x0 1 from hq14.trans (htp_86)), (show y10 10 = x0 10 from hq15.trans (hfp_86)), (show y10 11 = x0 11 from hq16.trans (hor_86)), (show y10 14 = x0 14 from hq17.trans (hirl_86)), by rw [ht]; exact hP9, hD9⟩, hS.F ht⟩) hS.2.2 dX11_cover_118
  have hJ23 : ∀ (n : Nat) (y23_0 : Nat → Int32) (v23_loc2 : Int32) (v23_loc3 : Int32) (H : Heap) (locs : List Loc) (ls : Array Slot), (20 - v23_loc3.toInt).toNat < n → fI lX11 hX11 y23_0 → iv 0 2 p0 → iv 0 20 v23_loc3 → iv 0 0 (y23_0 0) → (y23_0 1 = x0 1) → (y23_0 10 = x0 10) → (y23_0 11 = x0 11) → (y23_0 14 = x0 14) → va_P (dC, dI) vwCl [(m0, .inr (11, oX11 ra y23_0)), (ra 2, .inl (kI, 8, .inl q_told)), (ra 3, .inl (kI, 24, .inl q_kind)), (ra 4, .inl (kI, 24, .inl q_salt)), (ra 8, .inl (kI, 40, .inl q_from)), (ra 9, .inl (kI, 40, .inl q_to)), (ra 10, .inl (kI, 6, .inl q_goal)), (ra 11, .inl (kI, 1019, .inl q_now)), (ra 14, .inl (kI, 12, .inl q_reach))] H → va_D A [(m0, .inr (11, oX11 ra y23_0)), (ra 2, .inl (kI, 8, .inl q_told)), (ra 3, .inl (kI, 24, .inl q_kind)), (ra 4, .inl (kI, 24, .inl q_salt)), (ra 8, .inl (kI, 40, .inl q_from)), (ra 9, .inl (kI, 40, .inl q_to)), (ra 10, .inl (kI, 6, .inl q_goal)), (ra 11, .inl (kI, 1019, .inl q_now)), (ra 14, .inl (kI, 12, .inl q_reach))] → va_S A s.heap H locs → lv_has ls 4 [(0, .ref m0), (1, .int p0), (2, .int v23_loc2), (3, .int v23_loc3)] → W p l e (headSpec wsX11_cover rm_s11_cover).room s m args0 below meth c H locs (0) (0) (MQ below (va_Qi (fun (r : Int32) (_ : Unit) => iv (-1) 32 r) (fun _ t => ∃ (x0' : Nat → Int32) (q_now' : Nat → Int32), fI lX11 hX11 x0' ∧ fI lNow hNow q_now' ∧ (x0' 1 = x0 1) ∧ (x0' 10 = x0 10) ∧ (x0' 11 = x0 11) ∧ (x0' 14 = x0 14) ∧ va_P (dC, dI) vwCl [(m0, .inr (11, oX11 ra x0')), (ra 2, .inl (kI, 8, .inl q_told)), (ra 3, .inl (kI, 24, .inl q_kind)), (ra 4, .inl (kI, 24, .inl q_salt)), (ra 8, .inl (kI, 40, .inl q_from)), (ra 9, .inl (kI, 40, .inl q_to)), (ra 10, .inl (kI, 6, .inl q_goal)), (ra 11, .inl (kI, 1019, .inl q_now')), (ra 14, .inl (kI, 12, .inl q_reach))] t.heap ∧ va_D A [(m0, .inr (11, oX11 ra x0')), (ra 2, .inl (kI, 8, .inl q_told)), (ra 3, .inl (kI, 24, .inl q_kind)), (ra 4, .inl (kI, 24, .inl q_salt)), (ra 8, .inl (kI, 40, .inl q_from)), (ra 9, .inl (kI, 40, .inl q_to)), (ra 10, .inl (kI, 6, .inl q_goal)), (ra 11, .inl (kI, 1019, .inl q_now')), (ra 14, .inl (kI, 12, .inl q_reach))]) A) args0 s 0 0 A) (F0 m 23 ls []) := by
    intro n
    induction n with
    | zero => intro y23_0 v23_loc2 v23_loc3 H locs ls hm23; exact absurd hm23 (Nat.not_lt_zero _)
    | succ n ih23 =>
      intro y23_0 v23_loc2 v23_loc3 H locs ls hm23 hI23_0 h23_2 h23_3 h23_4 htp_23 hfp_23 hor_23 hirl_23 hP hD hS hl
      have hJ76 : ∀ (v76_stk0 : Int32) (H : Heap) (locs : List Loc) (ls : Array Slot), iv 0 19 v23_loc3 → iv 0 524288 v76_stk0 → iv 1 20 (q_told 1) → (y23_0 1 = x0 1) → (y23_0 10 = x0 10) → (y23_0 11 = x0 11) → (y23_0 14 = x0 14) → va_P (dC, dI) vwCl [(m0, .inr (11, oX11 ra y23_0)), (ra 2, .inl (kI, 8, .inl q_told)), (ra 3, .inl (kI, 24, .inl q_kind)), (ra 4, .inl (kI, 24, .inl q_salt)), (ra 8, .inl (kI, 40, .inl q_from)), (ra 9, .inl (kI, 40, .inl q_to)), (ra 10, .inl (kI, 6, .inl q_goal)), (ra 11, .inl (kI, 1019, .inl q_now)), (ra 14, .inl (kI, 12, .inl q_reach))] H → va_D A [(m0, .inr (11, oX11 ra y23_0)), (ra 2, .inl (kI, 8, .inl q_told)), (ra 3, .inl (kI, 24, .inl q_kind)), (ra 4, .inl (kI, 24, .inl q_salt)), (ra 8, .inl (kI, 40, .inl q_from)), (ra 9, .inl (kI, 40, .inl q_to)), (ra 10, .inl (kI, 6, .inl q_goal)), (ra 11, .inl (kI, 1019, .inl q_now)), (ra 14, .inl (kI, 12, .inl q_reach))] → va_S A s.heap H locs → lv_has ls 4 [(0, .ref m0), (1, .int p0), (2, .int v23_loc2), (3, .int v23_loc3)] → W p l e (headSpec wsX11_cover rm_s11_cover).room s m args0 below meth c H locs (0) (0) (MQ below (va_Qi (fun (r : Int32) (_ : Unit) => iv (-1) 32 r) (fun _ t => ∃ (x0' : Nat → Int32) (q_now' : Nat → Int32), fI lX11 hX11 x0' ∧ fI lNow hNow q_now' ∧ (x0' 1 = x0 1) ∧ (x0' 10 = x0 10) ∧ (x0' 11 = x0 11) ∧ (x0' 14 = x0 14) ∧ va_P (dC, dI) vwCl [(m0, .inr (11, oX11 ra x0')), (ra 2, .inl (kI, 8, .inl q_told)), (ra 3, .inl (kI, 24, .inl q_kind)), (ra 4, .inl (kI, 24, .inl q_salt)), (ra 8, .inl (kI, 40, .inl q_from)), (ra 9, .inl (kI, 40, .inl q_to)), (ra 10, .inl (kI, 6, .inl q_goal)), (ra 11, .inl (kI, 1019, .inl q_now')), (ra 14, .inl (kI, 12, .inl q_reach))] t.heap ∧ va_D A [(m0, .inr (11, oX11 ra x0')), (ra 2, .inl (kI, 8, .inl q_told)), (ra 3, .inl (kI, 24, .inl q_kind)), (ra 4, .inl (kI, 24, .inl q_salt)), (ra 8, .inl (kI, 40, .inl q_from)), (ra 9, .inl (kI, 40, .inl q_to)), (ra 10, .inl (kI, 6, .inl q_goal)), (ra 11, .inl (kI, 1019, .inl q_now')), (ra 14, .inl (kI, 12, .inl q_reach))]) A) args0 s 0 0 A) (F0 m 76 ls [.int v76_stk0, .int v23_loc2]) := by
        intro v76_stk0 H locs ls h76_1 h76_2 h76_3 htp_76 hfp_76 hor_76 hirl_76 hP hD hS hl
        refine lv_ior hx hb dX11_cover_76 ?_
        refine lv_topi (fun z25 _ => ?_)
        refine lv_istore_n (lv' := [(2, .int z25), (0, .ref m0), (1, .int p0), (3, .int v23_loc3)]) hx hb dX11_cover_77 rfl hl (Nat.le_of_ble_eq_true rfl) rfl (fun ls hl => ?_)
        refine lv_iinc (v := v23_loc3 + Int32.ofInt 1) (lv' := [(3, .int (v23_loc3 + Int32.ofInt 1)), (2, .int z25), (0, .ref m0), (1, .int p0)]) hx hb dX11_cover_78 hl (k := 3) rfl (rfl) (Nat.le_of_ble_eq_true rfl) rfl (fun ls hl => ?_)
        have b26 : iv 1 20 (v23_loc3 + Int32.ofInt 1) := iv_add h76_1 ivo_1 (by decide) (by decide) (by decide) (by decide)
        refine lv_goto (tgt := 23) hx hb dX11_cover_81 rfl ?_
        exact ih23 y23_0 z25 (v23_loc3 + Int32.ofInt 1) _ _ _ (ms_up (c := 1) (d := 0) h76_1 hm23 (by decide) (iv_inc 1 h76_1 (by decide) (by decide) (by decide) (by decide)) (by decide) rfl) (hI23_0) (h23_2) ((iv_w b26 (by decide) (by decide))) (h23_4) ((show y23_0 1 = x0 1 from htp_23)) ((show y23_0 10 = x0 10 from hfp_23)) ((show y23_0 11 = x0 11 from hor_23)) ((show y23_0 14 = x0 14 from hirl_23)) (hP) (hD) hS (lv_sub hl [2, 3, 1, 0] rfl)
      have hJ75 : ∀ (H : Heap) (locs : List Loc) (ls : Array Slot), iv 0 19 v23_loc3 → iv 1 20 (q_told 1) → (y23_0 1 = x0 1) → (y23_0 10 = x0 10) → (y23_0 11 = x0 11) → (y23_0 14 = x0 14) → va_P (dC, dI) vwCl [(m0, .inr (11, oX11 ra y23_0)), (ra 2, .inl (kI, 8, .inl q_told)), (ra 3, .inl (kI, 24, .inl q_kind)), (ra 4, .inl (kI, 24, .inl q_salt)), (ra 8, .inl (kI, 40, .inl q_from)), (ra 9, .inl (kI, 40, .inl q_to)), (ra 10, .inl (kI, 6, .inl q_goal)), (ra 11, .inl (kI, 1019, .inl q_now)), (ra 14, .inl (kI, 12, .inl q_reach))] H → va_D A [(m0, .inr (11, oX11 ra y23_0)), (ra 2, .inl (kI, 8, .inl q_told)), (ra 3, .inl (kI, 24, .inl q_kind)), (ra 4, .inl (kI, 24, .inl q_salt)), (ra 8, .inl (kI, 40, .inl q_from)), (ra 9, .inl (kI, 40, .inl q_to)), (ra 10, .inl (kI, 6, .inl q_goal)), (ra 11, .inl (kI, 1019, .inl q_now)), (ra 14, .inl (kI, 12, .inl q_reach))] → va_S A s.heap H locs → lv_has ls 4 [(0, .ref m0), (1, .int p0), (2, .int v23_loc2), (3, .int v23_loc3)] → W p l e (headSpec wsX11_cover rm_s11_cover).room s m args0 below meth c H locs (0) (0) (MQ below (va_Qi (fun (r : Int32) (_ : Unit) => iv (-1) 32 r) (fun _ t => ∃ (x0' : Nat → Int32) (q_now' : Nat → Int32), fI lX11 hX11 x0' ∧ fI lNow hNow q_now' ∧ (x0' 1 = x0 1) ∧ (x0' 10 = x0 10) ∧ (x0' 11 = x0 11) ∧ (x0' 14 = x0 14) ∧ va_P (dC, dI) vwCl [(m0, .inr (11, oX11 ra x0')), (ra 2, .inl (kI, 8, .inl q_told)), (ra 3, .inl (kI, 24, .inl q_kind)), (ra 4, .inl (kI, 24, .inl q_salt)), (ra 8, .inl (kI, 40, .inl q_from)), (ra 9, .inl (kI, 40, .inl q_to)), (ra 10, .inl (kI, 6, .inl q_goal)), (ra 11, .inl (kI, 1019, .inl q_now')), (ra 14, .inl (kI, 12, .inl q_reach))] t.heap ∧ va_D A [(m0, .inr (11, oX11 ra x0')), (ra 2, .inl (kI, 8, .inl q_told)), (ra 3, .inl (kI, 24, .inl q_kind)), (ra 4, .inl (kI, 24, .inl q_salt)), (ra 8, .inl (kI, 40, .inl q_from)), (ra 9, .inl (kI, 40, .inl q_to)), (ra 10, .inl (kI, 6, .inl q_goal)), (ra 11, .inl (kI, 1019, .inl q_now')), (ra 14, .inl (kI, 12, .inl q_reach))]) A) args0 s 0 0 A) (F0 m 75 ls [.int v23_loc2]) := by
        intro H locs ls h75_1 h75_2 htp_75 hfp_75 hor_75 hirl_75 hP hD hS hl
        refine lv_iconst (v := 0) hx hb dX11_cover_75 ic_0 ?_
        exact hJ76 0 _ _ _ (h75_1) ((iv_w ivk_0 (by decide) (by decide))) (h75_2) ((show y23_0 1 = x0 1 from htp_23)) ((show y23_0 10 = x0 10 from hfp_23)) ((show y23_0 11 = x0 11 from hor_23)) ((show y23_0 14 = x0 14 from hirl_23)) (hP) (hD) hS (lv_sub hl [0, 1, 2, 3] rfl)
      refine lv_iload_n hx hb dX11_cover_23 rfl (lv_at hl 3 rfl) ?_
      refine lv_aload_n hx hb dX11_cover_24 rfl (lv_at hl 0 rfl) ?_
      obtain ⟨hPc, hDc, hFc, hJn⟩ := cl_a (wc := [(m0, .inr (11, oX11 ra y23_0)), (ra 2, .inl (kI, 8, .inl q_told))]) (wr := [(ra 3, .inl (kI, 24, .inl q_kind)), (ra 4, .inl (kI, 24, .inl q_salt)), (ra 8, .inl (kI, 40, .inl q_from)), (ra 9, .inl (kI, 40, .inl q_to)), (ra 10, .inl (kI, 6, .inl q_goal)), (ra 11, .inl (kI, 1019, .inl q_now)), (ra 14, .inl (kI, 12, .inl q_reach))]) hP hD hS hA [0, 1] [2, 3, 4, 5, 6, 7, 8] rfl rfl (by decide +kernel)
      refine va_calli (va_runV (As := []) (rest := [.int v23_loc3]) ⟨hx, hb, hml, hown, hts⟩ (s11_links l dC dI kB kI kJ kZ kC kS H.size m0 ra y23_0 q_told (hI23_0) (hq_told)) (cwV 0 hts gX11_cover_X11_links rfl rfl rfl (by decide +kernel) ⟨Nat.le_of_ble_eq_true rfl, Nat.le_of_ble_eq_true rfl⟩) ⟨fun a U g mk q => by obtain ⟨q0, q1, qP, qE, qD⟩ := q; exact ⟨q0, q1, qP, kE_call qE, qD⟩, va_recv hK hP (ci := 11) (q0 := 0) rfl rfl, fun U hU hW => ⟨rfl, by rw [hU], by rw [hU]; exact hPc, kE_warm hW hE, hDc.weaken (fun _ _ _ _ => trivial)⟩⟩ rfl rfl hl.1 rfl (lv_room (Nat.le_of_ble_eq_true rfl)) dX11_cover_25 ⟨Nat.le_of_ble_eq_true rfl, Nat.le_of_ble_eq_true rfl⟩) hS (fun q _ h => hFc q h) hFc (fun r27 u t H locs ht hvm w28 hB hz1 hk1 hS => ?_)
      obtain ⟨hP1, hD1⟩ := hB
      try dsimp only at w28
      obtain ⟨hPa, hDa⟩ := hJn (w1 := [(m0, .inr (11, oX11 ra y23_0)), (ra 2, .inl (kI, 8, .inl q_told))]) hk1 ht hP1 hD1
      clear hP hD hPc hDc hFc hJn hP1 hD1 hk1
      have hP : va_P (dC, dI) vwCl [(ra 3, .inl (kI, 24, .inl q_kind)), (ra 4, .inl (kI, 24, .inl q_salt)), (ra 8, .inl (kI, 40, .inl q_from)), (ra 9, .inl (kI, 40, .inl q_to)), (ra 10, .inl (kI, 6, .inl q_goal)), (ra 11, .inl (kI, 1019, .inl q_now)), (ra 14, .inl (kI, 12, .inl q_reach)), (m0, .inr (11, oX11 ra y23_0)), (ra 2, .inl (kI, 8, .inl q_told))] H := hPa
      have hD : va_D A [(ra 3, .inl (kI, 24, .inl q_kind)), (ra 4, .inl (kI, 24, .inl q_salt)), (ra 8, .inl (kI, 40, .inl q_from)), (ra 9, .inl (kI, 40, .inl q_to)), (ra 10, .inl (kI, 6, .inl q_goal)), (ra 11, .inl (kI, 1019, .inl q_now)), (ra 14, .inl (kI, 12, .inl q_reach)), (m0, .inr (11, oX11 ra y23_0)), (ra 2, .inl (kI, 8, .inl q_told))] := hDa
      clear hPa hDa
      refine W.widen (k := 0) (n := 0) (Nat.le_of_ble_eq_true rfl) (Nat.le_of_ble_eq_true rfl) ?_
      subst w28
      refine lv_icmp_ge (tgt := 84) hx hb dX11_cover_28 rfl (fun c29 => ?_) (fun c29 => ?_)
      · refine lv_iconst (v := 0) hx hb dX11_cover_84 ic_0 ?_
        refine lv_istore_n (lv' := [(3, .int 0), (0, .ref m0), (1, .int p0), (2, .int v23_loc2)]) hx hb dX11_cover_85 rfl hl (Nat.le_of_ble_eq_true rfl) rfl (fun ls hl => ?_)
        have hPD9 := cl_s (wc := [(m0, .inr (11, oX11 ra y23_0)), (ra 2, .inl (kI, 8, .inl q_told)), (ra 3, .inl (kI, 24, .inl q_kind)), (ra 4, .inl (kI, 24, .inl q_salt)), (ra 8, .inl (kI, 40, .inl q_from)), (ra 9, .inl (kI, 40, .inl q_to)), (ra 10, .inl (kI, 6, .inl q_goal)), (ra 11, .inl (kI, 1019, .inl q_now)), (ra 14, .inl (kI, 12, .inl q_reach))]) hP hD [7, 8, 0, 1, 2, 3, 4, 5, 6] rfl (by decide +kernel)
        exact hJ86 _ y23_0 q_now v23_loc2 0 _ _ _ (Nat.lt_succ_self _) (hI23_0) (hq_now) (h23_2) ((iv_w ivk_0 (by decide) (by decide))) ((show y23_0 1 = x0 1 from htp_23)) ((show y23_0 10 = x0 10 from hfp_23)) ((show y23_0 11 = x0 11 from hor_23)) ((show y23_0 14 = x0 14 from hirl_23)) (hPD9.1) (hPD9.2) hS (lv_sub hl [1, 2, 3, 0] rfl)
      · have b30 : iv 0 19 v23_loc3 := iv_ltL (Int32.not_le.mp c29) h23_3 (hq_told 1 : iv 0 20 (q_told 1)) (by decide) (by decide)
        have b31 : iv 1 20 (q_told 1) := iv_ltR (Int32.not_le.mp c29) h23_3 (hq_told 1 : iv 0 20 (q_told 1)) (by decide) (by decide)
        refine lv_iload_n hx hb dX11_cover_31 rfl (lv_at hl 2 rfl) ?_
        refine lv_aload_n hx hb dX11_cover_32 rfl (lv_at hl 0 rfl) ?_
        refine va_get (D := (dC, dI)) (ci := 11) (v := .ref (ra 14)) (C := RX11) (T := TX11) (N := 61) hx hb hts hin11 hown hK hP 7 rfl rfl 25 (Nat.le_of_ble_eq_true rfl) hw_1 (fun _ h9 => h9) rfl dX11_cover_33 ?_
        refine lv_aload_n hx hb dX11_cover_36 rfl (lv_at hl 0 rfl) ?_
        refine va_get (D := (dC, dI)) (ci := 11) (v := .ref (ra 8)) (C := RX11) (T := TX11) (N := 61) hx hb hts hin11 hown hK hP 7 rfl rfl 9 (Nat.le_of_ble_eq_true rfl) hw_2 (fun _ h9 => h9) rfl dX11_cover_37 ?_
        refine lv_iload_n hx hb dX11_cover_40 rfl (lv_at hl 3 rfl) ?_
        refine va_iald hx hb hK hP 2 1 rfl rfl (iv_in b30 (by decide) (by decide)) dX11_cover_41 ?_
        refine iv_top (a := 0) (b := 11) (hq_from _) (fun z32 b33 => ?_)
        refine va_iald hx hb hK hP 6 1 rfl rfl (iv_in b33 (by decide) (by decide)) dX11_cover_42 ?_
        refine lv_topi (fun z34 _ => ?_)
        refine lv_iconst (v := 1) hx hb dX11_cover_43 ic_1 ?_
        refine lv_iand hx hb dX11_cover_44 ?_
        refine iv_top (a := 0) (b := 1) (iv_and (m := 1) (by decide) (by decide) (by decide)) (fun z35 b36 => ?_)
        refine lv_iconst (v := 1) hx hb dX11_cover_45 ic_1 ?_
        refine lv_icmp_ne (tgt := 75) hx hb dX11_cover_46 rfl (fun c37 => ?_) (fun c37 => ?_)
        · have b38 : iv 0 0 z35 := iv_neHi c37 b36 ivk_1 (by decide) (by decide)
          have hPD9 := cl_s (wc := [(m0, .inr (11, oX11 ra y23_0)), (ra 2, .inl (kI, 8, .inl q_told)), (ra 3, .inl (kI, 24, .inl q_kind)), (ra 4, .inl (kI, 24, .inl q_salt)), (ra 8, .inl (kI, 40, .inl q_from)), (ra 9, .inl (kI, 40, .inl q_to)), (ra 10, .inl (kI, 6, .inl q_goal)), (ra 11, .inl (kI, 1019, .inl q_now)), (ra 14, .inl (kI, 12, .inl q_reach))]) hP hD [7, 8, 0, 1, 2, 3, 4, 5, 6] rfl (by decide +kernel)
          exact hJ75 _ _ _ (b30) (b31) ((show y23_0 1 = x0 1 from htp_23)) ((show y23_0 10 = x0 10 from hfp_23)) ((show y23_0 11 = x0 11 from hor_23)) ((show y23_0 14 = x0 14 from hirl_23)) (hPD9.1) (hPD9.2) hS (lv_sub hl [0, 1, 2, 3] rfl)
        · have b39 : iv 1 1 z35 := iv_eqL c37 ivk_1
          refine lv_aload_n hx hb dX11_cover_49 rfl (lv_at hl 0 rfl) ?_
          refine lv_iload_n hx hb dX11_cover_50 rfl (lv_at hl 3 rfl) ?_
          refine lv_aload_n hx hb dX11_cover_51 rfl (lv_at hl 0 rfl) ?_
          refine va_get (D := (dC, dI)) (ci := 11) (v := .ref (ra 8)) (C := RX11) (T := TX11) (N := 61) hx hb hts hin11 hown hK hP 7 rfl rfl 9 (Nat.le_of_ble_eq_true rfl) hw_2 (fun _ h9 => h9) rfl dX11_cover_52 ?_
          refine lv_iload_n hx hb dX11_cover_55 rfl (lv_at hl 3 rfl) ?_
          refine va_iald hx hb hK hP 2 1 rfl rfl (iv_in b30 (by decide) (by decide)) dX11_cover_56 ?_
          refine iv_top (a := 0) (b := 11) (hq_from _) (fun z40 b41 => ?_)
          refine lv_aload_n hx hb dX11_cover_57 rfl (lv_at hl 0 rfl) ?_
          refine va_get (D := (dC, dI)) (ci := 11) (v := .ref (ra 10)) (C := RX11) (T := TX11) (N := 61) hx hb hts hin11 hown hK hP 7 rfl rfl 11 (Nat.le_of_ble_eq_true rfl) hw_3 (fun _ h9 => h9) rfl dX11_cover_58 ?_
          refine lv_iload_n hx hb dX11_cover_61 rfl (lv_at hl 1 rfl) ?_
          refine va_iald hx hb hK hP 4 1 rfl rfl (iv_in h23_2 (by decide) (by decide)) dX11_cover_62 ?_
          refine iv_top (a := 0) (b := 11) (hq_goal _) (fun z42 b43 => ?_)
          obtain ⟨hPc, hDc, hFc, hJn⟩ := cl_a (wc := [(m0, .inr (11, oX11 ra y23_0)), (ra 8, .inl (kI, 40, .inl q_from)), (ra 9, .inl (kI, 40, .inl q_to)), (ra 14, .inl (kI, 12, .inl q_reach))]) (wr := [(ra 3, .inl (kI, 24, .inl q_kind)), (ra 4, .inl (kI, 24, .inl q_salt)), (ra 10, .inl (kI, 6, .inl q_goal)), (ra 11, .inl (kI, 1019, .inl q_now)), (ra 2, .inl (kI, 8, .inl q_told))]) hP hD hS hA [7, 2, 3, 6] [0, 1, 4, 5, 8] rfl rfl (by decide +kernel)
          refine va_calli (va_runV (As := [.int v23_loc3, .int z40, .int z42]) (rest := [.int v23_loc2]) ⟨hx, hb, hml, hown, hts⟩ (s11_isBranch l dC dI kB kI kJ kZ kC kS H.size m0 ra y23_0 q_from q_to q_reach v23_loc3 z40 z42 (hI23_0) (hq_from) (hq_to) ((iv_w b30 (by decide) (by decide))) (b43)) (cwV 3 hts gX11_cover_X11_isBranch rfl rfl rfl (by decide +kernel) ⟨Nat.le_of_ble_eq_true rfl, Nat.le_of_ble_eq_true rfl⟩) ⟨fun a U g mk q => by obtain ⟨q0, q1, qP, qE, qD⟩ := q; exact ⟨q0, q1, qP, kE_call qE, qD⟩, va_recv hK hP (ci := 11) (q0 := 7) rfl rfl, fun U hU hW => ⟨rfl, by rw [hU], by rw [hU]; exact hPc, kE_warm hW hE, hDc.weaken (fun _ _ _ _ => trivial)⟩⟩ rfl rfl hl.1 rfl (lv_room (Nat.le_of_ble_eq_true rfl)) dX11_cover_63 ⟨Nat.le_of_ble_eq_true rfl, Nat.le_of_ble_eq_true rfl⟩) hS (fun q _ h => hFc q h) hFc (fun r44 u t H locs ht hvm w45 hB hz1 hk1 hS => ?_)
          obtain ⟨hP1, hD1⟩ := hB
          try dsimp only at w45
          obtain ⟨hPa, hDa⟩ := hJn (w1 := [(m0, .inr (11, oX11 ra y23_0)), (ra 8, .inl (kI, 40, .inl q_from)), (ra 9, .inl (kI, 40, .inl q_to)), (ra 14, .inl (kI, 12, .inl q_reach))]) hk1 ht hP1 hD1
          clear hP hD hPc hDc hFc hJn hP1 hD1 hk1
          have hP : va_P (dC, dI) vwCl [(ra 3, .inl (kI, 24, .inl q_kind)), (ra 4, .inl (kI, 24, .inl q_salt)), (ra 10, .inl (kI, 6, .inl q_goal)), (ra 11, .inl (kI, 1019, .inl q_now)), (ra 2, .inl (kI, 8, .inl q_told)), (m0, .inr (11, oX11 ra y23_0)), (ra 8, .inl (kI, 40, .inl q_from)), (ra 9, .inl (kI, 40, .inl q_to)), (ra 14, .inl (kI, 12, .inl q_reach))] H := hPa
          have hD : va_D A [(ra 3, .inl (kI, 24, .inl q_kind)), (ra 4, .inl (kI, 24, .inl q_salt)), (ra 10, .inl (kI, 6, .inl q_goal)), (ra 11, .inl (kI, 1019, .inl q_now)), (ra 2, .inl (kI, 8, .inl q_told)), (m0, .inr (11, oX11 ra y23_0)), (ra 8, .inl (kI, 40, .inl q_from)), (ra 9, .inl (kI, 40, .inl q_to)), (ra 14, .inl (kI, 12, .inl q_reach))] := hDa
          clear hPa hDa
          refine W.widen (k := 0) (n := 0) (Nat.le_of_ble_eq_true rfl) (Nat.le_of_ble_eq_true rfl) ?_
          refine lv_if_eq (tgt := 75) hx hb dX11_cover_66 rfl (fun c46 => ?_) (fun c46 => ?_)
          · have b47 : iv 0 0 r44 := iv_eqL c46 ivk_0
            have hPD9 := cl_s (wc := [(m0, .inr (11, oX11 ra y23_0)), (ra 2, .inl (kI, 8, .inl q_told)), (ra 3, .inl (kI, 24, .inl q_kind)), (ra 4, .inl (kI, 24, .inl q_salt)), (ra 8, .inl (kI, 40, .inl q_from)), (ra 9, .inl (kI, 40, .inl q_to)), (ra 10, .inl (kI, 6, .inl q_goal)), (ra 11, .inl (kI, 1019, .inl q_now)), (ra 14, .inl (kI, 12, .inl q_reach))]) hP hD [5, 4, 0, 1, 6, 7, 2, 3, 8] rfl (by decide +kernel)
            exact hJ75 _ _ _ (b30) (b31) ((show y23_0 1 = x0 1 from htp_23)) ((show y23_0 10 = x0 10 from hfp_23)) ((show y23_0 11 = x0 11 from hor_23)) ((show y23_0 14 = x0 14 from hirl_23)) (hPD9.1) (hPD9.2) hS (lv_sub hl [0, 1, 2, 3] rfl)
          · have b48 : iv 1 1 r44 := iv_neLo c46 w45.1 ivk_0 (by decide) (by decide)
            have hr49 : q_from v23_loc3.toNatClampNeg = z40 := (w45.2).resolve_left (iv_ne b48 ivk_0 (by decide))
            refine lv_iconst (v := 1) hx hb dX11_cover_69 ic_1 ?_
            refine lv_iload_n hx hb dX11_cover_70 rfl (lv_at hl 3 rfl) ?_
            refine lv_ishl hx hb dX11_cover_71 ?_
            refine iv_top (a := 0) (b := 524288) (iv_shl1 19 b30 (by decide) (by decide) (by decide) (by decide)) (fun z50 b51 => ?_)
            refine lv_goto (tgt := 76) hx hb dX11_cover_72 rfl ?_
            have hPD9 := cl_s (wc := [(m0, .inr (11, oX11 ra y23_0)), (ra 2, .inl (kI, 8, .inl q_told)), (ra 3, .inl (kI, 24, .inl q_kind)), (ra 4, .inl (kI, 24, .inl q_salt)), (ra 8, .inl (kI, 40, .inl q_from)), (ra 9, .inl (kI, 40, .inl q_to)), (ra 10, .inl (kI, 6, .inl q_goal)), (ra 11, .inl (kI, 1019, .inl q_now)), (ra 14, .inl (kI, 12, .inl q_reach))]) hP hD [5, 4, 0, 1, 6, 7, 2, 3, 8] rfl (by decide +kernel)
            exact hJ76 z50 _ _ _ (b30) (b51) (b31) ((show y23_0 1 = x0 1 from htp_23)) ((show y23_0 10 = x0 10 from hfp_23)) ((show y23_0 11 = x0 11 from hor_23)) ((show y23_0 14 = x0 14 from hirl_23)) (hPD9.1) (hPD9.2) hS (lv_sub hl [0, 1, 2, 3] rfl)
  refine lv_aload_n hx hb dX11_cover_0 rfl (lv_at hl 0 rfl) ?_
  refine lv_iconst (v := 0) hx hb dX11_cover_1 ic_0 ?_
  refine va_put (D := (dC, dI)) (ci := 11) (v := .int 0) (ty := .int) (C := RX11) (T := TX11) (N := 61) hx hb hts hin11 tyX11 tyX11_ok nmX11 hown hK hP hD hS 0 rfl rfl 2 (by decide) hw_4 (fun _ h9 => h9) rfl (by decide +kernel) rfl rfl (Nat.le_of_ble_eq_true rfl) dX11_cover_2 (fun H locs hPa hDa hS => ?_)
  clear hP hD
  have hP : va_P (dC, dI) vwCl [(m0, .inr (11, oX11 ra (upd x0 0 0))), (ra 2, .inl (kI, 8, .inl q_told)), (ra 3, .inl (kI, 24, .inl q_kind)), (ra 4, .inl (kI, 24, .inl q_salt)), (ra 8, .inl (kI, 40, .inl q_from)), (ra 9, .inl (kI, 40, .inl q_to)), (ra 10, .inl (kI, 6, .inl q_goal)), (ra 11, .inl (kI, 1019, .inl q_now)), (ra 14, .inl (kI, 12, .inl q_reach))] H := hPa
  have hD : va_D A [(m0, .inr (11, oX11 ra (upd x0 0 0))), (ra 2, .inl (kI, 8, .inl q_told)), (ra 3, .inl (kI, 24, .inl q_kind)), (ra 4, .inl (kI, 24, .inl q_salt)), (ra 8, .inl (kI, 40, .inl q_from)), (ra 9, .inl (kI, 40, .inl q_to)), (ra 10, .inl (kI, 6, .inl q_goal)), (ra 11, .inl (kI, 1019, .inl q_now)), (ra 14, .inl (kI, 12, .inl q_reach))] := hDa
  clear hPa hDa
  refine lv_aload_n hx hb dX11_cover_5 rfl (lv_at hl 0 rfl) ?_
  refine lv_iload_n hx hb dX11_cover_6 rfl (lv_at hl 1 rfl) ?_
  obtain ⟨hPc, hDc, hFc, hJn⟩ := cl_a (wc := [(m0, .inr (11, oX11 ra (upd x0 0 0))), (ra 2, .inl (kI, 8, .inl q_told))]) (wr := [(ra 3, .inl (kI, 24, .inl q_kind)), (ra 4, .inl (kI, 24, .inl q_salt)), (ra 8, .inl (kI, 40, .inl q_from)), (ra 9, .inl (kI, 40, .inl q_to)), (ra 10, .inl (kI, 6, .inl q_goal)), (ra 11, .inl (kI, 1019, .inl q_now)), (ra 14, .inl (kI, 12, .inl q_reach))]) hP hD hS hA [0, 1] [2, 3, 4, 5, 6, 7, 8] rfl rfl (by decide +kernel)
  refine va_calli (va_runV (As := [.int p0]) (rest := []) ⟨hx, hb, hml, hown, hts⟩ (s11_isGoal l dC dI kB kI kJ kZ kC kS H.size m0 ra (upd x0 0 0) q_told p0 ((fI_u hX (k := 0) ((iv_w ivk_0 (by decide) (by decide))))) (hq_told)) (cwV 1 hts gX11_cover_X11_isGoal rfl rfl rfl (by decide +kernel) ⟨Nat.le_of_ble_eq_true rfl, Nat.le_of_ble_eq_true rfl⟩) ⟨fun a U g mk q => by obtain ⟨q0, q1, qP, qE, qD⟩ := q; exact ⟨q0, q1, qP, kE_call qE, qD⟩, va_recv hK hP (ci := 11) (q0 := 0) rfl rfl, fun U hU hW => ⟨rfl, by rw [hU], by rw [hU]; exact hPc, kE_warm hW hE, hDc.weaken (fun _ _ _ _ => trivial)⟩⟩ rfl rfl hl.1 rfl (lv_room (Nat.le_of_ble_eq_true rfl)) dX11_cover_7 ⟨Nat.le_of_ble_eq_true rfl, Nat.le_of_ble_eq_true rfl⟩) hS (fun q _ h => hFc q h) hFc (fun r52 u t H locs ht hvm w53 hB hz1 hk1 hS => ?_)
  obtain ⟨hP1, hD1⟩ := hB
  try dsimp only at w53
  obtain ⟨hPa, hDa⟩ := hJn (w1 := [(m0, .inr (11, oX11 ra (upd x0 0 0))), (ra 2, .inl (kI, 8, .inl q_told))]) hk1 ht hP1 hD1
  clear hP hD hPc hDc hFc hJn hP1 hD1 hk1
  have hP : va_P (dC, dI) vwCl [(ra 3, .inl (kI, 24, .inl q_kind)), (ra 4, .inl (kI, 24, .inl q_salt)), (ra 8, .inl (kI, 40, .inl q_from)), (ra 9, .inl (kI, 40, .inl q_to)), (ra 10, .inl (kI, 6, .inl q_goal)), (ra 11, .inl (kI, 1019, .inl q_now)), (ra 14, .inl (kI, 12, .inl q_reach)), (m0, .inr (11, oX11 ra (upd x0 0 0))), (ra 2, .inl (kI, 8, .inl q_told))] H := hPa
  have hD : va_D A [(ra 3, .inl (kI, 24, .inl q_kind)), (ra 4, .inl (kI, 24, .inl q_salt)), (ra 8, .inl (kI, 40, .inl q_from)), (ra 9, .inl (kI, 40, .inl q_to)), (ra 10, .inl (kI, 6, .inl q_goal)), (ra 11, .inl (kI, 1019, .inl q_now)), (ra 14, .inl (kI, 12, .inl q_reach)), (m0, .inr (11, oX11 ra (upd x0 0 0))), (ra 2, .inl (kI, 8, .inl q_told))] := hDa
  clear hPa hDa
  refine W.widen (k := 0) (n := 0) (Nat.le_of_ble_eq_true rfl) (Nat.le_of_ble_eq_true rfl) ?_
  refine lv_if_ne (tgt := 19) hx hb dX11_cover_10 rfl (fun c54 => ?_) (fun c54 => ?_)
  · have b55 : iv 1 1 r52 := iv_neLo c54 w53.1 ivk_0 (by decide) (by decide)
    have b56 : iv 0 2 p0 := (w53.2).resolve_left (iv_ne b55 ivk_0 (by decide))
    refine lv_iconst (v := 0) hx hb dX11_cover_19 ic_0 ?_
    refine lv_istore_n (lv' := [(2, .int 0), (0, .ref m0), (1, .int p0)]) hx hb dX11_cover_20 rfl hl (Nat.le_of_ble_eq_true rfl) rfl (fun ls hl => ?_)
    refine lv_iconst (v := 0) hx hb dX11_cover_21 ic_0 ?_
    refine lv_istore_n (lv' := [(3, .int 0), (2, .int 0), (0, .ref m0), (1, .int p0)]) hx hb dX11_cover_22 rfl hl (Nat.le_of_ble_eq_true rfl) rfl (fun ls hl => ?_)
    have hPD9 := cl_s (wc := [(m0, .inr (11, oX11 ra (upd x0 0 0))), (ra 2, .inl (kI, 8, .inl q_told)), (ra 3, .inl (kI, 24, .inl q_kind)), (ra 4, .inl (kI, 24, .inl q_salt)), (ra 8, .inl (kI, 40, .inl q_from)), (ra 9, .inl (kI, 40, .inl q_to)), (ra 10, .inl (kI, 6, .inl q_goal)), (ra 11, .inl (kI, 1019, .inl q_now)), (ra 14, .inl (kI, 12, .inl q_reach))]) hP hD [7, 8, 0, 1, 2, 3, 4, 5, 6] rfl (by decide +kernel)
    exact hJ23 _ (upd x0 0 0) 0 0 _ _ _ (Nat.lt_succ_self _) ((fI_u hX (k := 0) ((iv_w ivk_0 (by decide) (by decide))))) (b56) ((iv_w ivk_0 (by decide) (by decide))) (ivk_0) ((show x0 1 = x0 1 from rfl)) ((show x0 10 = x0 10 from rfl)) ((show x0 11 = x0 11 from rfl)) ((show x0 14 = x0 14 from rfl)) (hPD9.1) (hPD9.2) hS (lv_sub hl [2, 3, 1, 0] rfl)
  · have b57 : iv 0 0 r52 := iv_eqL c54 ivk_0
    refine lv_aload_n hx hb dX11_cover_13 rfl (lv_at hl 0 rfl) ?_
    refine lv_iconst (v := 1) hx hb dX11_cover_14 ic_1 ?_
    obtain ⟨hPc, hDc, hFc, hJn⟩ := cl_a (wc := [(m0, .inr (11, oX11 ra (upd x0 0 0)))]) (wr := [(ra 3, .inl (kI, 24, .inl q_kind)), (ra 4, .inl (kI, 24, .inl q_salt)), (ra 8, .inl (kI, 40, .inl q_from)), (ra 9, .inl (kI, 40, .inl q_to)), (ra 10, .inl (kI, 6, .inl q_goal)), (ra 11, .inl (kI, 1019, .inl q_now)), (ra 14, .inl (kI, 12, .inl q_reach)), (ra 2, .inl (kI, 8, .inl q_told))]) hP hD hS hA [7] [0, 1, 2, 3, 4, 5, 6, 8] rfl rfl (by decide +kernel)
    refine va_calli (va_runV (As := [.int 1]) (rest := []) ⟨hx, hb, hml, hown, hts⟩ (s11_fail l dC dI kB kI kJ kZ kC kS H.size m0 ra (upd x0 0 0) 1 ((fI_u hX (k := 0) ((iv_w ivk_0 (by decide) (by decide)))))) (cwV 1 hts gX11_cover_X11_fail rfl rfl rfl (by decide +kernel) ⟨Nat.le_of_ble_eq_true rfl, Nat.le_of_ble_eq_true rfl⟩) ⟨fun a U g mk q => by obtain ⟨q0, q1, qP, qE, qD⟩ := q; exact ⟨q0, q1, qP, kE_call qE, qD⟩, va_recv hK hP (ci := 11) (q0 := 7) rfl rfl, fun U hU hW => ⟨rfl, by rw [hU], by rw [hU]; exact hPc, kE_warm hW hE, hDc.weaken (fun _ _ _ _ => trivial)⟩⟩ rfl rfl hl.1 rfl (lv_room (Nat.le_of_ble_eq_true rfl)) dX11_cover_15 ⟨Nat.le_of_ble_eq_true rfl, Nat.le_of_ble_eq_true rfl⟩) hS (fun q _ h => hFc q h) hFc (fun r58 u t H locs ht hvm w59 hB hz1 hk1 hS => ?_)
    obtain ⟨y60, hq61, hq62, hq63, hq64, hq65, hq66, hP1, hD1⟩ := hB
    try dsimp only at w59
    obtain ⟨hPa, hDa⟩ := hJn (w1 := [(m0, .inr (11, oX11 ra y60))]) hk1 ht hP1 hD1
    clear hP hD hPc hDc hFc hJn hP1 hD1 hk1
    have hP : va_P (dC, dI) vwCl [(ra 3, .inl (kI, 24, .inl q_kind)), (ra 4, .inl (kI, 24, .inl q_salt)), (ra 8, .inl (kI, 40, .inl q_from)), (ra 9, .inl (kI, 40, .inl q_to)), (ra 10, .inl (kI, 6, .inl q_goal)), (ra 11, .inl (kI, 1019, .inl q_now)), (ra 14, .inl (kI, 12, .inl q_reach)), (ra 2, .inl (kI, 8, .inl q_told)), (m0, .inr (11, oX11 ra y60))] H := hPa
    have hD : va_D A [(ra 3, .inl (kI, 24, .inl q_kind)), (ra 4, .inl (kI, 24, .inl q_salt)), (ra 8, .inl (kI, 40, .inl q_from)), (ra 9, .inl (kI, 40, .inl q_to)), (ra 10, .inl (kI, 6, .inl q_goal)), (ra 11, .inl (kI, 1019, .inl q_now)), (ra 14, .inl (kI, 12, .inl q_reach)), (ra 2, .inl (kI, 8, .inl q_told)), (m0, .inr (11, oX11 ra y60))] := hDa
    clear hPa hDa
    refine W.widen (k := 0) (n := 0) (Nat.le_of_ble_eq_true rfl) (Nat.le_of_ble_eq_true rfl) ?_
    obtain rfl : r58 = 0 := iv_one w59 (by decide)
    have hPD9 := cl_s (wc := [(m0, .inr (11, oX11 ra y60)), (ra 2, .inl (kI, 8, .inl q_told)), (ra 3, .inl (kI, 24, .inl q_kind)), (ra 4, .inl (kI, 24, .inl q_salt)), (ra 8, .inl (kI, 40, .inl q_from)), (ra 9, .inl (kI, 40, .inl q_to)), (ra 10, .inl (kI, 6, .inl q_goal)), (ra 11, .inl (kI, 1019, .inl q_now)), (ra 14, .inl (kI, 12, .inl q_reach))]) hP hD [8, 7, 0, 1, 2, 3, 4, 5, 6] rfl (by decide +kernel)
    have hP9 := hPD9.1
    have hD9 := hPD9.2
    exact W.iret (v := 0) hx hb hr (fun t ht hW => ⟨⟨0, (), rfl, (iv_w ivk_0 (by decide) (by decide)), y60, q_now, hq61, hq_now, (show y60 1 = x0 1 from hq63), (show y60 10 = x0 10 from hq64), (show y60 11 = x0 11 from hq65), (show y60 14 = x0 14 from hq66), by rw [ht]; exact hP9, hD9⟩, hS.F ht⟩) hS.2.2 dX11_cover_18
def rm_s11_note : Room := { frames := 2, cells := 0, slots := 0, locals := 43 }
set_option maxHeartbeats 4000000 in
set_option maxRecDepth 100000 in
theorem s11_note (l : Launch) (dC : Nat → ClassId) (dI : Nat → Nat → Nat) (kB kI kJ kZ kC kS : ClassId) (sz : Nat) (m0 : Nat) (ra : Nat → Nat) (x0 : Nat → Int32) (q_told : Nat → Int32) (q_status : Nat → Int32) (q_notedPort : Nat → Int32) (q_notedGoal : Nat → Int32) (q_notedHop : Nat → Int32) (q_notedAddress : Nat → Int32) (p0 : Int32) (p1 : Int32) (p2 : Int32) (p3 : Int32) (hX : fI lX11 hX11 x0) (hq_told : fI lTold hTold q_told) (hq_notedPort : fI (fun _ => 0) (fun _ => 31) q_notedPort) (hq_notedGoal : fI (fun _ => 0) (fun _ => 2) q_notedGoal) : Met l yX11_note wsX11_note rm_s11_note (va_Pc [.ref m0, .int p0, .int p1, .int p2, .int p3] (fun U => U.heap.size = sz ∧ va_P (dC, dI) vwCl [(m0, .inr (11, oX11 ra x0)), (ra 2, .inl (kI, 8, .inl q_told)), (ra 12, .inl (kI, 3, .inl q_status)), (ra 22, .inl (kI, 8, .inl q_notedPort)), (ra 23, .inl (kI, 8, .inl q_notedGoal)), (ra 24, .inl (kI, 8, .inl q_notedHop)), (ra 25, .inl (kI, 8, .inl q_notedAddress))] U.heap ∧ kE dC dI kB kI kJ kZ kC kS U ∧ va_D (fun _ => True) [(m0, .inr (11, oX11 ra x0)), (ra 2, .inl (kI, 8, .inl q_told)), (ra 12, .inl (kI, 3, .inl q_status)), (ra 22, .inl (kI, 8, .inl q_notedPort)), (ra 23, .inl (kI, 8, .inl q_notedGoal)), (ra 24, .inl (kI, 8, .inl q_notedHop)), (ra 25, .inl (kI, 8, .inl q_notedAddress))])) (va_Qi (fun (r : Int32) (_ : Unit) => iv (-1) 8 r) (fun _ t => ∃ (x0' : Nat → Int32) (q_status' : Nat → Int32) (q_notedPort' : Nat → Int32) (q_notedGoal' : Nat → Int32) (q_notedHop' : Nat → Int32) (q_notedAddress' : Nat → Int32), fI lX11 hX11 x0' ∧ fI (fun _ => 0) (fun _ => 31) q_notedPort' ∧ fI (fun _ => 0) (fun _ => 2) q_notedGoal' ∧ (x0' 1 = x0 1) ∧ (x0' 10 = x0 10) ∧ (x0' 11 = x0 11) ∧ (x0' 14 = x0 14) ∧ va_P (dC, dI) vwCl [(m0, .inr (11, oX11 ra x0')), (ra 2, .inl (kI, 8, .inl q_told)), (ra 12, .inl (kI, 3, .inl q_status')), (ra 22, .inl (kI, 8, .inl q_notedPort')), (ra 23, .inl (kI, 8, .inl q_notedGoal')), (ra 24, .inl (kI, 8, .inl q_notedHop')), (ra 25, .inl (kI, 8, .inl q_notedAddress'))] t.heap ∧ va_D (va_A [(m0, .inr (11, oX11 ra x0)), (ra 2, .inl (kI, 8, .inl q_told)), (ra 12, .inl (kI, 3, .inl q_status)), (ra 22, .inl (kI, 8, .inl q_notedPort)), (ra 23, .inl (kI, 8, .inl q_notedGoal)), (ra 24, .inl (kI, 8, .inl q_notedHop)), (ra 25, .inl (kI, 8, .inl q_notedAddress))] sz) [(m0, .inr (11, oX11 ra x0')), (ra 2, .inl (kI, 8, .inl q_told)), (ra 12, .inl (kI, 3, .inl q_status')), (ra 22, .inl (kI, 8, .inl q_notedPort')), (ra 23, .inl (kI, 8, .inl q_notedGoal')), (ra 24, .inl (kI, 8, .inl q_notedHop')), (ra 25, .inl (kI, 8, .inl q_notedAddress'))]) (va_A [(m0, .inr (11, oX11 ra x0)), (ra 2, .inl (kI, 8, .inl q_told)), (ra 12, .inl (kI, 3, .inl q_status)), (ra 22, .inl (kI, 8, .inl q_notedPort)), (ra 23, .inl (kI, 8, .inl q_notedGoal)), (ra 24, .inl (kI, 8, .inl q_notedHop)), (ra 25, .inl (kI, 8, .inl q_notedAddress))] sz)) 0 0 (va_A [(m0, .inr (11, oX11 ra x0)), (ra 2, .inl (kI, 8, .inl q_told)), (ra 12, .inl (kI, 3, .inl q_status)), (ra 22, .inl (kI, 8, .inl q_notedPort)), (ra 23, .inl (kI, 8, .inl q_notedGoal)), (ra 24, .inl (kI, 8, .inl q_notedHop)), (ra 25, .inl (kI, 8, .inl q_notedAddress))] sz) := by
  refine Met.ofW (cc := cX11_note) (maxL := 5) (ret := (some .int)) (by decide) rfl ?_
  intro p e s m args0 below meth c s₁ B hml hv
  obtain ⟨hargs, hsz, hP, hE, hD0⟩ := hv
  have hx := B.exec
  have hb := B.bytes
  have hr := B.returns
  have hts := atoms_spec (ws := wsX11_note) B.pre
  have hown : s.vm.findClass RX11 = some m.cls := findClass_of_methodNamed B.named
  have hlocks := B.notSynchronized
  have hK := hE.1
  have hin11 : ∀ w ∈ wsX110, w ∈ wsX11_note := fun _ h9 => List.mem_cons_of_mem _ (List.mem_append_right _ h9)
  have hw_0 := hts (.fieldLink RX11 142 "PathProberModel" "code" "I") (List.mem_of_getElem? (i := 1) rfl)
  have hw_1 := hts (.fieldLink RX11 253 "PathProberModel" "noted" "I") (List.mem_of_getElem? (i := 2) rfl)
  have hw_2 := hts (.fieldLink RX11 103 "PathProberModel" "notedPort" "[I") (List.mem_of_getElem? (i := 3) rfl)
  have hw_3 := hts (.fieldLink RX11 106 "PathProberModel" "notedGoal" "[I") (List.mem_of_getElem? (i := 4) rfl)
  have hw_4 := hts (.fieldLink RX11 109 "PathProberModel" "notedHop" "[I") (List.mem_of_getElem? (i := 5) rfl)
  have hw_5 := hts (.fieldLink RX11 112 "PathProberModel" "notedAddress" "[I") (List.mem_of_getElem? (i := 6) rfl)
  subst hsz
  have hD := hD0.self (sz := s.heap.size)
  generalize hAe : va_A [(m0, .inr (11, oX11 ra x0)), (ra 2, .inl (kI, 8, .inl q_told)), (ra 12, .inl (kI, 3, .inl q_status)), (ra 22, .inl (kI, 8, .inl q_notedPort)), (ra 23, .inl (kI, 8, .inl q_notedGoal)), (ra 24, .inl (kI, 8, .inl q_notedHop)), (ra 25, .inl (kI, 8, .inl q_notedAddress))] s.heap.size = A at hD ⊢
  have hA : ∀ q : Nat, s.heap.size ≤ q → A q := fun q h => by rw [← hAe]; exact Or.inr h
  have hS : va_S A s.heap s.heap [] := va_S.rf
  have hP : va_P (dC, dI) vwCl [(m0, .inr (11, oX11 ra x0)), (ra 2, .inl (kI, 8, .inl q_told)), (ra 12, .inl (kI, 3, .inl q_status)), (ra 22, .inl (kI, 8, .inl q_notedPort)), (ra 23, .inl (kI, 8, .inl q_notedGoal)), (ra 24, .inl (kI, 8, .inl q_notedHop)), (ra 25, .inl (kI, 8, .inl q_notedAddress))] s.heap := hP
  have hl := lv_entry ([.ref m0, .int p0, .int p1, .int p2, .int p3]) (n := 5) (Nat.le_of_ble_eq_true rfl)
  have hla : entryFrame m args0 5 = entryFrame m ([.ref m0, .int p0, .int p1, .int p2, .int p3] : List Value).toArray 5 := by rw [hargs]
  rw [hla, lg_entry_eq]
  generalize (lg_sl ([.ref m0, .int p0, .int p1, .int p2, .int p3]) ++ List.replicate (5 - (lg_sl ([.ref m0, .int p0, .int p1, .int p2, .int p3])).length) Slot.unset).toArray = ls at hl ⊢
  have hl : lv_has ls 5 [(0, .ref m0), (1, .int p0), (2, .int p1), (3, .int p2), (4, .int p3)] := hl
  have hJ45 : ∀ (y45_0 : Nat → Int32) (H : Heap) (locs : List Loc) (ls : Array Slot), fI lX11 hX11 y45_0 → iv 0 0 (y45_0 0) → (y45_0 1 = x0 1) → (y45_0 10 = x0 10) → (y45_0 11 = x0 11) → (y45_0 14 = x0 14) → va_P (dC, dI) vwCl [(m0, .inr (11, oX11 ra y45_0)), (ra 2, .inl (kI, 8, .inl q_told)), (ra 12, .inl (kI, 3, .inl q_status)), (ra 22, .inl (kI, 8, .inl q_notedPort)), (ra 23, .inl (kI, 8, .inl q_notedGoal)), (ra 24, .inl (kI, 8, .inl q_notedHop)), (ra 25, .inl (kI, 8, .inl q_notedAddress))] H → va_D A [(m0, .inr (11, oX11 ra y45_0)), (ra 2, .inl (kI, 8, .inl q_told)), (ra 12, .inl (kI, 3, .inl q_status)), (ra 22, .inl (kI, 8, .inl q_notedPort)), (ra 23, .inl (kI, 8, .inl q_notedGoal)), (ra 24, .inl (kI, 8, .inl q_notedHop)), (ra 25, .inl (kI, 8, .inl q_notedAddress))] → va_S A s.heap H locs → lv_has ls 5 [(0, .ref m0), (1, .int p0), (2, .int p1), (3, .int p2), (4, .int p3)] → W p l e (headSpec wsX11_note rm_s11_note).room s m args0 below meth c H locs (0) (0) (MQ below (va_Qi (fun (r : Int32) (_ : Unit) => iv (-1) 8 r) (fun _ t => ∃ (x0' : Nat → Int32) (q_status' : Nat → Int32) (q_notedPort' : Nat → Int32) (q_notedGoal' : Nat → Int32) (q_notedHop' : Nat → Int32) (q_notedAddress' : Nat → Int32), fI lX11 hX11 x0' ∧ fI (fun _ => 0) (fun _ => 31) q_notedPort' ∧ fI (fun _ => 0) (fun _ => 2) q_notedGoal' ∧ (x0' 1 = x0 1) ∧ (x0' 10 = x0 10) ∧ (x0' 11 = x0 11) ∧ (x0' 14 = x0 14) ∧ va_P (dC, dI) vwCl [(m0, .inr (11, oX11 ra x0')), (ra 2, .inl (kI, 8, .inl q_told)), (ra 12, .inl (kI, 3, .inl q_status')), (ra 22, .inl (kI, 8, .inl q_notedPort')), (ra 23, .inl (kI, 8, .inl q_notedGoal')), (ra 24, .inl (kI, 8, .inl q_notedHop')), (ra 25, .inl (kI, 8, .inl q_notedAddress'))] t.heap ∧ va_D A [(m0, .inr (11, oX11 ra x0')), (ra 2, .inl (kI, 8, .inl q_told)), (ra 12, .inl (kI, 3, .inl q_status')), (ra 22, .inl (kI, 8, .inl q_notedPort')), (ra 23, .inl (kI, 8, .inl q_notedGoal')), (ra 24, .inl (kI, 8, .inl q_notedHop')), (ra 25, .inl (kI, 8, .inl q_notedAddress'))]) A) args0 s 0 0 A) (F0 m 45 ls []) := by
    intro y45_0 H locs ls hI45_0 h45_2 htp_45 hfp_45 hor_45 hirl_45 hP hD hS hl
    refine lv_aload_n hx hb dX11_note_45 rfl (lv_at hl 0 rfl) ?_
    refine lv_iconst (v := 2) hx hb dX11_note_46 ic_2 ?_
    obtain ⟨hPc, hDc, hFc, hJn⟩ := cl_a (wc := [(m0, .inr (11, oX11 ra y45_0)), (ra 12, .inl (kI, 3, .inl q_status))]) (wr := [(ra 2, .inl (kI, 8, .inl q_told)), (ra 22, .inl (kI, 8, .inl q_notedPort)), (ra 23, .inl (kI, 8, .inl q_notedGoal)), (ra 24, .inl (kI, 8, .inl q_notedHop)), (ra 25, .inl (kI, 8, .inl q_notedAddress))]) hP hD hS hA [0, 2] [1, 3, 4, 5, 6] rfl rfl (by decide +kernel)
    refine va_calli (va_runV (As := [.int 2]) (rest := []) ⟨hx, hb, hml, hown, hts⟩ (s11_refuse l dC dI kB kI kJ kZ kC kS H.size m0 ra y45_0 q_status 2 (hI45_0) ((iv_w ivk_2 (by decide) (by decide)))) (cwV 1 hts gX11_note_X11_refuse rfl rfl rfl (by decide +kernel) ⟨Nat.le_of_ble_eq_true rfl, Nat.le_of_ble_eq_true rfl⟩) ⟨fun a U g mk q => by obtain ⟨q0, q1, qP, qE, qD⟩ := q; exact ⟨q0, q1, qP, kE_call qE, qD⟩, va_recv hK hP (ci := 11) (q0 := 0) rfl rfl, fun U hU hW => ⟨rfl, by rw [hU], by rw [hU]; exact hPc, kE_warm hW hE, hDc.weaken (fun _ _ _ _ => trivial)⟩⟩ rfl rfl hl.1 rfl (lv_room (Nat.le_of_ble_eq_true rfl)) dX11_note_47 ⟨Nat.le_of_ble_eq_true rfl, Nat.le_of_ble_eq_true rfl⟩) hS (fun q _ h => hFc q h) hFc (fun r1 u t H locs ht hvm w2 hB hz1 hk1 hS => ?_)
    obtain ⟨f3, hP1, hD1⟩ := hB
    try dsimp only at w2
    obtain ⟨hPa, hDa⟩ := hJn (w1 := [(m0, .inr (11, oX11 ra y45_0)), (ra 12, .inl (kI, 3, .inl f3))]) hk1 ht hP1 hD1
    clear hP hD hPc hDc hFc hJn hP1 hD1 hk1
    have hP : va_P (dC, dI) vwCl [(ra 2, .inl (kI, 8, .inl q_told)), (ra 22, .inl (kI, 8, .inl q_notedPort)), (ra 23, .inl (kI, 8, .inl q_notedGoal)), (ra 24, .inl (kI, 8, .inl q_notedHop)), (ra 25, .inl (kI, 8, .inl q_notedAddress)), (m0, .inr (11, oX11 ra y45_0)), (ra 12, .inl (kI, 3, .inl f3))] H := hPa
    have hD : va_D A [(ra 2, .inl (kI, 8, .inl q_told)), (ra 22, .inl (kI, 8, .inl q_notedPort)), (ra 23, .inl (kI, 8, .inl q_notedGoal)), (ra 24, .inl (kI, 8, .inl q_notedHop)), (ra 25, .inl (kI, 8, .inl q_notedAddress)), (m0, .inr (11, oX11 ra y45_0)), (ra 12, .inl (kI, 3, .inl f3))] := hDa
    clear hPa hDa
    refine W.widen (k := 0) (n := 0) (Nat.le_of_ble_eq_true rfl) (Nat.le_of_ble_eq_true rfl) ?_
    obtain rfl : r1 = (-1) := iv_one w2 (by decide)
    have hPD9 := cl_s (wc := [(m0, .inr (11, oX11 ra y45_0)), (ra 2, .inl (kI, 8, .inl q_told)), (ra 12, .inl (kI, 3, .inl f3)), (ra 22, .inl (kI, 8, .inl q_notedPort)), (ra 23, .inl (kI, 8, .inl q_notedGoal)), (ra 24, .inl (kI, 8, .inl q_notedHop)), (ra 25, .inl (kI, 8, .inl q_notedAddress))]) hP hD [5, 0, 6, 1, 2, 3, 4] rfl (by decide +kernel)
    have hP9 := hPD9.1
    have hD9 := hPD9.2
    exact W.iret (v := (-1)) hx hb hr (fun t ht hW => ⟨⟨(-1), (), rfl, (iv_w ivk_m1 (by decide) (by decide)), y45_0, f3, q_notedPort, q_notedGoal, q_notedHop, q_notedAddress, hI45_0, hq_notedPort, hq_notedGoal, (show y45_0 1 = x0 1 from htp_45), (show y45_0 10 = x0 10 from hfp_45), (show y45_0 11 = x0 11 from hor_45), (show y45_0 14 = x0 14 from hirl_45), by rw [ht]; exact hP9, hD9⟩, hS.F ht⟩) hS.2.2 dX11_note_50
  refine lv_aload_n hx hb dX11_note_0 rfl (lv_at hl 0 rfl) ?_
  refine lv_iconst (v := 0) hx hb dX11_note_1 ic_0 ?_
  refine va_put (D := (dC, dI)) (ci := 11) (v := .int 0) (ty := .int) (C := RX11) (T := TX11) (N := 61) hx hb hts hin11 tyX11 tyX11_ok nmX11 hown hK hP hD hS 0 rfl rfl 2 (by decide) hw_0 (fun _ h9 => h9) rfl (by decide +kernel) rfl rfl (Nat.le_of_ble_eq_true rfl) dX11_note_2 (fun H locs hPa hDa hS => ?_)
  clear hP hD
  have hP : va_P (dC, dI) vwCl [(m0, .inr (11, oX11 ra (upd x0 0 0))), (ra 2, .inl (kI, 8, .inl q_told)), (ra 12, .inl (kI, 3, .inl q_status)), (ra 22, .inl (kI, 8, .inl q_notedPort)), (ra 23, .inl (kI, 8, .inl q_notedGoal)), (ra 24, .inl (kI, 8, .inl q_notedHop)), (ra 25, .inl (kI, 8, .inl q_notedAddress))] H := hPa
  have hD : va_D A [(m0, .inr (11, oX11 ra (upd x0 0 0))), (ra 2, .inl (kI, 8, .inl q_told)), (ra 12, .inl (kI, 3, .inl q_status)), (ra 22, .inl (kI, 8, .inl q_notedPort)), (ra 23, .inl (kI, 8, .inl q_notedGoal)), (ra 24, .inl (kI, 8, .inl q_notedHop)), (ra 25, .inl (kI, 8, .inl q_notedAddress))] := hDa
  clear hPa hDa
  refine lv_aload_n hx hb dX11_note_5 rfl (lv_at hl 0 rfl) ?_
  refine va_get (D := (dC, dI)) (ci := 11) (v := .int (x0 21)) (C := RX11) (T := TX11) (N := 61) hx hb hts hin11 hown hK hP 0 rfl rfl 43 (Nat.le_of_ble_eq_true rfl) hw_1 (fun _ h9 => h9) rfl dX11_note_6 ?_
  refine lv_bipush (v := 8) hx hb dX11_note_9 bp_8 ?_
  refine lv_icmp_eq (tgt := 45) hx hb dX11_note_11 rfl (fun c4 => ?_) (fun c4 => ?_)
  · have b5 : iv 8 8 (x0 21) := iv_eqL c4 ivk_8
    exact hJ45 (upd x0 0 0) _ _ _ ((fI_u hX (k := 0) ((iv_w ivk_0 (by decide) (by decide))))) (ivk_0) ((show x0 1 = x0 1 from rfl)) ((show x0 10 = x0 10 from rfl)) ((show x0 11 = x0 11 from rfl)) ((show x0 14 = x0 14 from rfl)) (hP) (hD) hS (lv_sub hl [0, 1, 2, 3, 4] rfl)
  · have b6 : iv 0 7 (x0 21) := iv_neHi c4 (hX 21 : iv 0 8 (x0 21)) ivk_8 (by decide) (by decide)
    refine lv_iload_n hx hb dX11_note_14 rfl (lv_at hl 1 rfl) ?_
    obtain ⟨hPc, hDc, hFc, hJn⟩ := cl_a (wc := []) (wr := [(m0, .inr (11, oX11 ra (upd x0 0 0))), (ra 2, .inl (kI, 8, .inl q_told)), (ra 12, .inl (kI, 3, .inl q_status)), (ra 22, .inl (kI, 8, .inl q_notedPort)), (ra 23, .inl (kI, 8, .inl q_notedGoal)), (ra 24, .inl (kI, 8, .inl q_notedHop)), (ra 25, .inl (kI, 8, .inl q_notedAddress))]) hP hD hS hA [] [0, 1, 2, 3, 4, 5, 6] rfl rfl (by decide +kernel)
    refine va_calli (va_runS (As := [.int p0]) (rest := []) ⟨hx, hb, hml, hown, hts⟩ (s11_isPort l dC dI kB kI kJ kZ kC kS H.size p0) (va_cwS 1 hts gX11_note_X11_isPort rfl rfl rfl (by decide +kernel) ⟨Nat.le_of_ble_eq_true rfl, Nat.le_of_ble_eq_true rfl⟩) ⟨fun a U g mk q => by obtain ⟨q0, q1, qP, qE, qD⟩ := q; exact ⟨q0, q1, qP, kE_call qE, qD⟩, fun U hU hW => ⟨rfl, by rw [hU], by rw [hU]; exact hPc, kE_warm hW hE, hDc.weaken (fun _ _ _ _ => trivial)⟩⟩ rfl rfl hl.1 rfl (lv_room (Nat.le_of_ble_eq_true rfl)) dX11_note_15 ⟨Nat.le_of_ble_eq_true rfl, Nat.le_of_ble_eq_true rfl⟩) hS (fun q _ h => hFc q h) hFc (fun r7 u t H locs ht hvm w8 hB hz1 hk1 hS => ?_)
    obtain ⟨hP1, hD1⟩ := hB
    try dsimp only at w8
    obtain ⟨hPa, hDa⟩ := hJn (w1 := []) hk1 ht hP1 hD1
    clear hP hD hPc hDc hFc hJn hP1 hD1 hk1
    have hP : va_P (dC, dI) vwCl [(m0, .inr (11, oX11 ra (upd x0 0 0))), (ra 2, .inl (kI, 8, .inl q_told)), (ra 12, .inl (kI, 3, .inl q_status)), (ra 22, .inl (kI, 8, .inl q_notedPort)), (ra 23, .inl (kI, 8, .inl q_notedGoal)), (ra 24, .inl (kI, 8, .inl q_notedHop)), (ra 25, .inl (kI, 8, .inl q_notedAddress))] H := hPa
    have hD : va_D A [(m0, .inr (11, oX11 ra (upd x0 0 0))), (ra 2, .inl (kI, 8, .inl q_told)), (ra 12, .inl (kI, 3, .inl q_status)), (ra 22, .inl (kI, 8, .inl q_notedPort)), (ra 23, .inl (kI, 8, .inl q_notedGoal)), (ra 24, .inl (kI, 8, .inl q_notedHop)), (ra 25, .inl (kI, 8, .inl q_notedAddress))] := hDa
    clear hPa hDa
    refine W.widen (k := 0) (n := 0) (Nat.le_of_ble_eq_true rfl) (Nat.le_of_ble_eq_true rfl) ?_
    refine lv_if_eq (tgt := 45) hx hb dX11_note_18 rfl (fun c9 => ?_) (fun c9 => ?_)
    · have b10 : iv 0 0 r7 := iv_eqL c9 ivk_0
      exact hJ45 (upd x0 0 0) _ _ _ ((fI_u hX (k := 0) ((iv_w ivk_0 (by decide) (by decide))))) (ivk_0) ((show x0 1 = x0 1 from rfl)) ((show x0 10 = x0 10 from rfl)) ((show x0 11 = x0 11 from rfl)) ((show x0 14 = x0 14 from rfl)) (hP) (hD) hS (lv_sub hl [0, 1, 2, 3, 4] rfl)
    · have b11 : iv 1 1 r7 := iv_neLo c9 w8.1 ivk_0 (by decide) (by decide)
      have b12 : iv 0 31 p0 := (w8.2).resolve_left (iv_ne b11 ivk_0 (by decide))
      refine lv_aload_n hx hb dX11_note_21 rfl (lv_at hl 0 rfl) ?_
      refine lv_iload_n hx hb dX11_note_22 rfl (lv_at hl 2 rfl) ?_
      obtain ⟨hPc, hDc, hFc, hJn⟩ := cl_a (wc := [(m0, .inr (11, oX11 ra (upd x0 0 0))), (ra 2, .inl (kI, 8, .inl q_told))]) (wr := [(ra 12, .inl (kI, 3, .inl q_status)), (ra 22, .inl (kI, 8, .inl q_notedPort)), (ra 23, .inl (kI, 8, .inl q_notedGoal)), (ra 24, .inl (kI, 8, .inl q_notedHop)), (ra 25, .inl (kI, 8, .inl q_notedAddress))]) hP hD hS hA [0, 1] [2, 3, 4, 5, 6] rfl rfl (by decide +kernel)
      refine va_calli (va_runV (As := [.int p1]) (rest := []) ⟨hx, hb, hml, hown, hts⟩ (s11_isGoal l dC dI kB kI kJ kZ kC kS H.size m0 ra (upd x0 0 0) q_told p1 ((fI_u hX (k := 0) ((iv_w ivk_0 (by decide) (by decide))))) (hq_told)) (cwV 1 hts gX11_note_X11_isGoal rfl rfl rfl (by decide +kernel) ⟨Nat.le_of_ble_eq_true rfl, Nat.le_of_ble_eq_true rfl⟩) ⟨fun a U g mk q => by obtain ⟨q0, q1, qP, qE, qD⟩ := q; exact ⟨q0, q1, qP, kE_call qE, qD⟩, va_recv hK hP (ci := 11) (q0 := 0) rfl rfl, fun U hU hW => ⟨rfl, by rw [hU], by rw [hU]; exact hPc, kE_warm hW hE, hDc.weaken (fun _ _ _ _ => trivial)⟩⟩ rfl rfl hl.1 rfl (lv_room (Nat.le_of_ble_eq_true rfl)) dX11_note_23 ⟨Nat.le_of_ble_eq_true rfl, Nat.le_of_ble_eq_true rfl⟩) hS (fun q _ h => hFc q h) hFc (fun r13 u t H locs ht hvm w14 hB hz1 hk1 hS => ?_)
      obtain ⟨hP1, hD1⟩ := hB
      try dsimp only at w14
      obtain ⟨hPa, hDa⟩ := hJn (w1 := [(m0, .inr (11, oX11 ra (upd x0 0 0))), (ra 2, .inl (kI, 8, .inl q_told))]) hk1 ht hP1 hD1
      clear hP hD hPc hDc hFc hJn hP1 hD1 hk1
      have hP : va_P (dC, dI) vwCl [(ra 12, .inl (kI, 3, .inl q_status)), (ra 22, .inl (kI, 8, .inl q_notedPort)), (ra 23, .inl (kI, 8, .inl q_notedGoal)), (ra 24, .inl (kI, 8, .inl q_notedHop)), (ra 25, .inl (kI, 8, .inl q_notedAddress)), (m0, .inr (11, oX11 ra (upd x0 0 0))), (ra 2, .inl (kI, 8, .inl q_told))] H := hPa
      have hD : va_D A [(ra 12, .inl (kI, 3, .inl q_status)), (ra 22, .inl (kI, 8, .inl q_notedPort)), (ra 23, .inl (kI, 8, .inl q_notedGoal)), (ra 24, .inl (kI, 8, .inl q_notedHop)), (ra 25, .inl (kI, 8, .inl q_notedAddress)), (m0, .inr (11, oX11 ra (upd x0 0 0))), (ra 2, .inl (kI, 8, .inl q_told))] := hDa
      clear hPa hDa
      refine W.widen (k := 0) (n := 0) (Nat.le_of_ble_eq_true rfl) (Nat.le_of_ble_eq_true rfl) ?_
      refine lv_if_eq (tgt := 45) hx hb dX11_note_26 rfl (fun c15 => ?_) (fun c15 => ?_)
      · have b16 : iv 0 0 r13 := iv_eqL c15 ivk_0
        have hPD9 := cl_s (wc := [(m0, .inr (11, oX11 ra (upd x0 0 0))), (ra 2, .inl (kI, 8, .inl q_told)), (ra 12, .inl (kI, 3, .inl q_status)), (ra 22, .inl (kI, 8, .inl q_notedPort)), (ra 23, .inl (kI, 8, .inl q_notedGoal)), (ra 24, .inl (kI, 8, .inl q_notedHop)), (ra 25, .inl (kI, 8, .inl q_notedAddress))]) hP hD [5, 6, 0, 1, 2, 3, 4] rfl (by decide +kernel)
        exact hJ45 (upd x0 0 0) _ _ _ ((fI_u hX (k := 0) ((iv_w ivk_0 (by decide) (by decide))))) (ivk_0) ((show x0 1 = x0 1 from rfl)) ((show x0 10 = x0 10 from rfl)) ((show x0 11 = x0 11 from rfl)) ((show x0 14 = x0 14 from rfl)) (hPD9.1) (hPD9.2) hS (lv_sub hl [0, 1, 2, 3, 4] rfl)
      · have b17 : iv 1 1 r13 := iv_neLo c15 w14.1 ivk_0 (by decide) (by decide)
        have b18 : iv 0 2 p1 := (w14.2).resolve_left (iv_ne b17 ivk_0 (by decide))
        refine lv_iload_n hx hb dX11_note_29 rfl (lv_at hl 3 rfl) ?_
        obtain ⟨hPc, hDc, hFc, hJn⟩ := cl_a (wc := []) (wr := [(ra 12, .inl (kI, 3, .inl q_status)), (ra 22, .inl (kI, 8, .inl q_notedPort)), (ra 23, .inl (kI, 8, .inl q_notedGoal)), (ra 24, .inl (kI, 8, .inl q_notedHop)), (ra 25, .inl (kI, 8, .inl q_notedAddress)), (m0, .inr (11, oX11 ra (upd x0 0 0))), (ra 2, .inl (kI, 8, .inl q_told))]) hP hD hS hA [] [0, 1, 2, 3, 4, 5, 6] rfl rfl (by decide +kernel)
        refine va_calli (va_runS (As := [.int p2]) (rest := []) ⟨hx, hb, hml, hown, hts⟩ (s11_isHop l dC dI kB kI kJ kZ kC kS H.size p2) (va_cwS 1 hts gX11_note_X11_isHop rfl rfl rfl (by decide +kernel) ⟨Nat.le_of_ble_eq_true rfl, Nat.le_of_ble_eq_true rfl⟩) ⟨fun a U g mk q => by obtain ⟨q0, q1, qP, qE, qD⟩ := q; exact ⟨q0, q1, qP, kE_call qE, qD⟩, fun U hU hW => ⟨rfl, by rw [hU], by rw [hU]; exact hPc, kE_warm hW hE, hDc.weaken (fun _ _ _ _ => trivial)⟩⟩ rfl rfl hl.1 rfl (lv_room (Nat.le_of_ble_eq_true rfl)) dX11_note_30 ⟨Nat.le_of_ble_eq_true rfl, Nat.le_of_ble_eq_true rfl⟩) hS (fun q _ h => hFc q h) hFc (fun r19 u t H locs ht hvm w20 hB hz1 hk1 hS => ?_)
        obtain ⟨hP1, hD1⟩ := hB
        try dsimp only at w20
        obtain ⟨hPa, hDa⟩ := hJn (w1 := []) hk1 ht hP1 hD1
        clear hP hD hPc hDc hFc hJn hP1 hD1 hk1
        have hP : va_P (dC, dI) vwCl [(ra 12, .inl (kI, 3, .inl q_status)), (ra 22, .inl (kI, 8, .inl q_notedPort)), (ra 23, .inl (kI, 8, .inl q_notedGoal)), (ra 24, .inl (kI, 8, .inl q_notedHop)), (ra 25, .inl (kI, 8, .inl q_notedAddress)), (m0, .inr (11, oX11 ra (upd x0 0 0))), (ra 2, .inl (kI, 8, .inl q_told))] H := hPa
        have hD : va_D A [(ra 12, .inl (kI, 3, .inl q_status)), (ra 22, .inl (kI, 8, .inl q_notedPort)), (ra 23, .inl (kI, 8, .inl q_notedGoal)), (ra 24, .inl (kI, 8, .inl q_notedHop)), (ra 25, .inl (kI, 8, .inl q_notedAddress)), (m0, .inr (11, oX11 ra (upd x0 0 0))), (ra 2, .inl (kI, 8, .inl q_told))] := hDa
        clear hPa hDa
        refine W.widen (k := 0) (n := 0) (Nat.le_of_ble_eq_true rfl) (Nat.le_of_ble_eq_true rfl) ?_
        refine lv_if_eq (tgt := 45) hx hb dX11_note_33 rfl (fun c21 => ?_) (fun c21 => ?_)
        · have b22 : iv 0 0 r19 := iv_eqL c21 ivk_0
          have hPD9 := cl_s (wc := [(m0, .inr (11, oX11 ra (upd x0 0 0))), (ra 2, .inl (kI, 8, .inl q_told)), (ra 12, .inl (kI, 3, .inl q_status)), (ra 22, .inl (kI, 8, .inl q_notedPort)), (ra 23, .inl (kI, 8, .inl q_notedGoal)), (ra 24, .inl (kI, 8, .inl q_notedHop)), (ra 25, .inl (kI, 8, .inl q_notedAddress))]) hP hD [5, 6, 0, 1, 2, 3, 4] rfl (by decide +kernel)
          exact hJ45 (upd x0 0 0) _ _ _ ((fI_u hX (k := 0) ((iv_w ivk_0 (by decide) (by decide))))) (ivk_0) ((show x0 1 = x0 1 from rfl)) ((show x0 10 = x0 10 from rfl)) ((show x0 11 = x0 11 from rfl)) ((show x0 14 = x0 14 from rfl)) (hPD9.1) (hPD9.2) hS (lv_sub hl [0, 1, 2, 3, 4] rfl)
        · have b23 : iv 1 1 r19 := iv_neLo c21 w20.1 ivk_0 (by decide) (by decide)
          have b24 : iv 1 10 p2 := (w20.2).resolve_left (iv_ne b23 ivk_0 (by decide))
          refine lv_aload_n hx hb dX11_note_36 rfl (lv_at hl 0 rfl) ?_
          refine lv_iload hx hb dX11_note_37 (lv_at hl 4 rfl) ?_
          obtain ⟨hPc, hDc, hFc, hJn⟩ := cl_a (wc := [(m0, .inr (11, oX11 ra (upd x0 0 0))), (ra 2, .inl (kI, 8, .inl q_told))]) (wr := [(ra 12, .inl (kI, 3, .inl q_status)), (ra 22, .inl (kI, 8, .inl q_notedPort)), (ra 23, .inl (kI, 8, .inl q_notedGoal)), (ra 24, .inl (kI, 8, .inl q_notedHop)), (ra 25, .inl (kI, 8, .inl q_notedAddress))]) hP hD hS hA [5, 6] [0, 1, 2, 3, 4] rfl rfl (by decide +kernel)
          refine va_calli (va_runV (As := [.int p3]) (rest := []) ⟨hx, hb, hml, hown, hts⟩ (s11_isAddress l dC dI kB kI kJ kZ kC kS H.size m0 ra (upd x0 0 0) q_told p3 ((fI_u hX (k := 0) ((iv_w ivk_0 (by decide) (by decide))))) (hq_told)) (cwV 1 hts gX11_note_X11_isAddress rfl rfl rfl (by decide +kernel) ⟨Nat.le_of_ble_eq_true rfl, Nat.le_of_ble_eq_true rfl⟩) ⟨fun a U g mk q => by obtain ⟨q0, q1, qP, qE, qD⟩ := q; exact ⟨q0, q1, qP, kE_call qE, qD⟩, va_recv hK hP (ci := 11) (q0 := 5) rfl rfl, fun U hU hW => ⟨rfl, by rw [hU], by rw [hU]; exact hPc, kE_warm hW hE, hDc.weaken (fun _ _ _ _ => trivial)⟩⟩ rfl rfl hl.1 rfl (lv_room (Nat.le_of_ble_eq_true rfl)) dX11_note_39 ⟨Nat.le_of_ble_eq_true rfl, Nat.le_of_ble_eq_true rfl⟩) hS (fun q _ h => hFc q h) hFc (fun r25 u t H locs ht hvm w26 hB hz1 hk1 hS => ?_)
          obtain ⟨hP1, hD1⟩ := hB
          try dsimp only at w26
          obtain ⟨hPa, hDa⟩ := hJn (w1 := [(m0, .inr (11, oX11 ra (upd x0 0 0))), (ra 2, .inl (kI, 8, .inl q_told))]) hk1 ht hP1 hD1
          clear hP hD hPc hDc hFc hJn hP1 hD1 hk1
          have hP : va_P (dC, dI) vwCl [(ra 12, .inl (kI, 3, .inl q_status)), (ra 22, .inl (kI, 8, .inl q_notedPort)), (ra 23, .inl (kI, 8, .inl q_notedGoal)), (ra 24, .inl (kI, 8, .inl q_notedHop)), (ra 25, .inl (kI, 8, .inl q_notedAddress)), (m0, .inr (11, oX11 ra (upd x0 0 0))), (ra 2, .inl (kI, 8, .inl q_told))] H := hPa
          have hD : va_D A [(ra 12, .inl (kI, 3, .inl q_status)), (ra 22, .inl (kI, 8, .inl q_notedPort)), (ra 23, .inl (kI, 8, .inl q_notedGoal)), (ra 24, .inl (kI, 8, .inl q_notedHop)), (ra 25, .inl (kI, 8, .inl q_notedAddress)), (m0, .inr (11, oX11 ra (upd x0 0 0))), (ra 2, .inl (kI, 8, .inl q_told))] := hDa
          clear hPa hDa
          refine W.widen (k := 0) (n := 0) (Nat.le_of_ble_eq_true rfl) (Nat.le_of_ble_eq_true rfl) ?_
          refine lv_if_ne (tgt := 51) hx hb dX11_note_42 rfl (fun c27 => ?_) (fun c27 => ?_)
          · have b28 : iv 1 1 r25 := iv_neLo c27 w26.1 ivk_0 (by decide) (by decide)
            have b29 : iv 0 20 p3 := (w26.2).resolve_left (iv_ne b28 ivk_0 (by decide))
            refine lv_aload_n hx hb dX11_note_51 rfl (lv_at hl 0 rfl) ?_
            refine va_get (D := (dC, dI)) (ci := 11) (v := .ref (ra 22)) (C := RX11) (T := TX11) (N := 61) hx hb hts hin11 hown hK hP 5 rfl rfl 44 (Nat.le_of_ble_eq_true rfl) hw_2 (fun _ h9 => h9) rfl dX11_note_52 ?_
            refine lv_aload_n hx hb dX11_note_55 rfl (lv_at hl 0 rfl) ?_
            refine va_get (D := (dC, dI)) (ci := 11) (v := .int (x0 21)) (C := RX11) (T := TX11) (N := 61) hx hb hts hin11 hown hK hP 5 rfl rfl 43 (Nat.le_of_ble_eq_true rfl) hw_1 (fun _ h9 => h9) rfl dX11_note_56 ?_
            refine lv_iload_n hx hb dX11_note_59 rfl (lv_at hl 1 rfl) ?_
            refine va_iast hx hb hK hP hD hS 1 1 rfl rfl (iv_in b6 (by decide) (by decide)) dX11_note_60 (fun H locs hPa hDa hS => ?_)
            clear hP hD
            have hP : va_P (dC, dI) vwCl [(ra 12, .inl (kI, 3, .inl q_status)), (ra 22, .inl (kI, 8, .inl (upd q_notedPort (x0 21).toNatClampNeg p0))), (ra 23, .inl (kI, 8, .inl q_notedGoal)), (ra 24, .inl (kI, 8, .inl q_notedHop)), (ra 25, .inl (kI, 8, .inl q_notedAddress)), (m0, .inr (11, oX11 ra (upd x0 0 0))), (ra 2, .inl (kI, 8, .inl q_told))] H := hPa
            have hD : va_D A [(ra 12, .inl (kI, 3, .inl q_status)), (ra 22, .inl (kI, 8, .inl (upd q_notedPort (x0 21).toNatClampNeg p0))), (ra 23, .inl (kI, 8, .inl q_notedGoal)), (ra 24, .inl (kI, 8, .inl q_notedHop)), (ra 25, .inl (kI, 8, .inl q_notedAddress)), (m0, .inr (11, oX11 ra (upd x0 0 0))), (ra 2, .inl (kI, 8, .inl q_told))] := hDa
            clear hPa hDa
            have hf31 : fI (fun _ => 0) (fun _ => 31) (upd q_notedPort (x0 21).toNatClampNeg p0) := fI_u hq_notedPort (k := (x0 21).toNatClampNeg) (b12)
            generalize (upd q_notedPort (x0 21).toNatClampNeg p0) = f30 at hP hD hf31
            refine lv_aload_n hx hb dX11_note_61 rfl (lv_at hl 0 rfl) ?_
            refine va_get (D := (dC, dI)) (ci := 11) (v := .ref (ra 23)) (C := RX11) (T := TX11) (N := 61) hx hb hts hin11 hown hK hP 5 rfl rfl 45 (Nat.le_of_ble_eq_true rfl) hw_3 (fun _ h9 => h9) rfl dX11_note_62 ?_
            refine lv_aload_n hx hb dX11_note_65 rfl (lv_at hl 0 rfl) ?_
            refine va_get (D := (dC, dI)) (ci := 11) (v := .int (x0 21)) (C := RX11) (T := TX11) (N := 61) hx hb hts hin11 hown hK hP 5 rfl rfl 43 (Nat.le_of_ble_eq_true rfl) hw_1 (fun _ h9 => h9) rfl dX11_note_66 ?_
            refine lv_iload_n hx hb dX11_note_69 rfl (lv_at hl 2 rfl) ?_
            refine va_iast hx hb hK hP hD hS 2 1 rfl rfl (iv_in b6 (by decide) (by decide)) dX11_note_70 (fun H locs hPa hDa hS => ?_)
            clear hP hD
            have hP : va_P (dC, dI) vwCl [(ra 12, .inl (kI, 3, .inl q_status)), (ra 22, .inl (kI, 8, .inl f30)), (ra 23, .inl (kI, 8, .inl (upd q_notedGoal (x0 21).toNatClampNeg p1))), (ra 24, .inl (kI, 8, .inl q_notedHop)), (ra 25, .inl (kI, 8, .inl q_notedAddress)), (m0, .inr (11, oX11 ra (upd x0 0 0))), (ra 2, .inl (kI, 8, .inl q_told))] H := hPa
            have hD : va_D A [(ra 12, .inl (kI, 3, .inl q_status)), (ra 22, .inl (kI, 8, .inl f30)), (ra 23, .inl (kI, 8, .inl (upd q_notedGoal (x0 21).toNatClampNeg p1))), (ra 24, .inl (kI, 8, .inl q_notedHop)), (ra 25, .inl (kI, 8, .inl q_notedAddress)), (m0, .inr (11, oX11 ra (upd x0 0 0))), (ra 2, .inl (kI, 8, .inl q_told))] := hDa
            clear hPa hDa
            have hf33 : fI (fun _ => 0) (fun _ => 2) (upd q_notedGoal (x0 21).toNatClampNeg p1) := fI_u hq_notedGoal (k := (x0 21).toNatClampNeg) (b18)
            generalize (upd q_notedGoal (x0 21).toNatClampNeg p1) = f32 at hP hD hf33
            refine lv_aload_n hx hb dX11_note_71 rfl (lv_at hl 0 rfl) ?_
            refine va_get (D := (dC, dI)) (ci := 11) (v := .ref (ra 24)) (C := RX11) (T := TX11) (N := 61) hx hb hts hin11 hown hK hP 5 rfl rfl 46 (Nat.le_of_ble_eq_true rfl) hw_4 (fun _ h9 => h9) rfl dX11_note_72 ?_
            refine lv_aload_n hx hb dX11_note_75 rfl (lv_at hl 0 rfl) ?_
            refine va_get (D := (dC, dI)) (ci := 11) (v := .int (x0 21)) (C := RX11) (T := TX11) (N := 61) hx hb hts hin11 hown hK hP 5 rfl rfl 43 (Nat.le_of_ble_eq_true rfl) hw_1 (fun _ h9 => h9) rfl dX11_note_76 ?_
            refine lv_iload_n hx hb dX11_note_79 rfl (lv_at hl 3 rfl) ?_
            refine va_iast hx hb hK hP hD hS 3 1 rfl rfl (iv_in b6 (by decide) (by decide)) dX11_note_80 (fun H locs hPa hDa hS => ?_)
            clear hP hD
            have hP : va_P (dC, dI) vwCl [(ra 12, .inl (kI, 3, .inl q_status)), (ra 22, .inl (kI, 8, .inl f30)), (ra 23, .inl (kI, 8, .inl f32)), (ra 24, .inl (kI, 8, .inl (upd q_notedHop (x0 21).toNatClampNeg p2))), (ra 25, .inl (kI, 8, .inl q_notedAddress)), (m0, .inr (11, oX11 ra (upd x0 0 0))), (ra 2, .inl (kI, 8, .inl q_told))] H := hPa
            have hD : va_D A [(ra 12, .inl (kI, 3, .inl q_status)), (ra 22, .inl (kI, 8, .inl f30)), (ra 23, .inl (kI, 8, .inl f32)), (ra 24, .inl (kI, 8, .inl (upd q_notedHop (x0 21).toNatClampNeg p2))), (ra 25, .inl (kI, 8, .inl q_notedAddress)), (m0, .inr (11, oX11 ra (upd x0 0 0))), (ra 2, .inl (kI, 8, .inl q_told))] := hDa
            clear hPa hDa
            generalize (upd q_notedHop (x0 21).toNatClampNeg p2) = f34 at hP hD
            refine lv_aload_n hx hb dX11_note_81 rfl (lv_at hl 0 rfl) ?_
            refine va_get (D := (dC, dI)) (ci := 11) (v := .ref (ra 25)) (C := RX11) (T := TX11) (N := 61) hx hb hts hin11 hown hK hP 5 rfl rfl 47 (Nat.le_of_ble_eq_true rfl) hw_5 (fun _ h9 => h9) rfl dX11_note_82 ?_
            refine lv_aload_n hx hb dX11_note_85 rfl (lv_at hl 0 rfl) ?_
            refine va_get (D := (dC, dI)) (ci := 11) (v := .int (x0 21)) (C := RX11) (T := TX11) (N := 61) hx hb hts hin11 hown hK hP 5 rfl rfl 43 (Nat.le_of_ble_eq_true rfl) hw_1 (fun _ h9 => h9) rfl dX11_note_86 ?_
            refine lv_iload hx hb dX11_note_89 (lv_at hl 4 rfl) ?_
            refine va_iast hx hb hK hP hD hS 4 1 rfl rfl (iv_in b6 (by decide) (by decide)) dX11_note_91 (fun H locs hPa hDa hS => ?_)
            clear hP hD
            have hP : va_P (dC, dI) vwCl [(ra 12, .inl (kI, 3, .inl q_status)), (ra 22, .inl (kI, 8, .inl f30)), (ra 23, .inl (kI, 8, .inl f32)), (ra 24, .inl (kI, 8, .inl f34)), (ra 25, .inl (kI, 8, .inl (upd q_notedAddress (x0 21).toNatClampNeg p3))), (m0, .inr (11, oX11 ra (upd x0 0 0))), (ra 2, .inl (kI, 8, .inl q_told))] H := hPa
            have hD : va_D A [(ra 12, .inl (kI, 3, .inl q_status)), (ra 22, .inl (kI, 8, .inl f30)), (ra 23, .inl (kI, 8, .inl f32)), (ra 24, .inl (kI, 8, .inl f34)), (ra 25, .inl (kI, 8, .inl (upd q_notedAddress (x0 21).toNatClampNeg p3))), (m0, .inr (11, oX11 ra (upd x0 0 0))), (ra 2, .inl (kI, 8, .inl q_told))] := hDa
            clear hPa hDa
            generalize (upd q_notedAddress (x0 21).toNatClampNeg p3) = f35 at hP hD
            refine lv_aload_n hx hb dX11_note_92 rfl (lv_at hl 0 rfl) ?_
            refine lv_dup hx hb dX11_note_93 rfl ?_
            refine va_get (D := (dC, dI)) (ci := 11) (v := .int (x0 21)) (C := RX11) (T := TX11) (N := 61) hx hb hts hin11 hown hK hP 5 rfl rfl 43 (Nat.le_of_ble_eq_true rfl) hw_1 (fun _ h9 => h9) rfl dX11_note_94 ?_
            refine lv_iconst (v := 1) hx hb dX11_note_97 ic_1 ?_
            refine lv_iadd hx hb dX11_note_98 ?_
            refine iv_top (a := 1) (b := 8) (iv_add b6 ivk_1 (by decide) (by decide) (by decide) (by decide)) (fun z36 b37 => ?_)
            refine va_put (D := (dC, dI)) (ci := 11) (v := .int z36) (ty := .int) (C := RX11) (T := TX11) (N := 61) hx hb hts hin11 tyX11 tyX11_ok nmX11 hown hK hP hD hS 5 rfl rfl 43 (by decide) hw_1 (fun _ h9 => h9) rfl (by decide +kernel) rfl rfl (Nat.le_of_ble_eq_true rfl) dX11_note_99 (fun H locs hPa hDa hS => ?_)
            clear hP hD
            have hP : va_P (dC, dI) vwCl [(ra 12, .inl (kI, 3, .inl q_status)), (ra 22, .inl (kI, 8, .inl f30)), (ra 23, .inl (kI, 8, .inl f32)), (ra 24, .inl (kI, 8, .inl f34)), (ra 25, .inl (kI, 8, .inl f35)), (m0, .inr (11, oX11 ra (upd (upd x0 0 0) 21 z36))), (ra 2, .inl (kI, 8, .inl q_told))] H := hPa
            have hD : va_D A [(ra 12, .inl (kI, 3, .inl q_status)), (ra 22, .inl (kI, 8, .inl f30)), (ra 23, .inl (kI, 8, .inl f32)), (ra 24, .inl (kI, 8, .inl f34)), (ra 25, .inl (kI, 8, .inl f35)), (m0, .inr (11, oX11 ra (upd (upd x0 0 0) 21 z36))), (ra 2, .inl (kI, 8, .inl q_told))] := hDa
            clear hPa hDa
            refine lv_aload_n hx hb dX11_note_102 rfl (lv_at hl 0 rfl) ?_
            refine va_get (D := (dC, dI)) (ci := 11) (v := .int z36) (C := RX11) (T := TX11) (N := 61) hx hb hts hin11 hown hK hP 5 rfl rfl 43 (Nat.le_of_ble_eq_true rfl) hw_1 (fun _ h9 => h9) rfl dX11_note_103 ?_
            have hPD9 := cl_s (wc := [(m0, .inr (11, oX11 ra (upd (upd x0 0 0) 21 z36))), (ra 2, .inl (kI, 8, .inl q_told)), (ra 12, .inl (kI, 3, .inl q_status)), (ra 22, .inl (kI, 8, .inl f30)), (ra 23, .inl (kI, 8, .inl f32)), (ra 24, .inl (kI, 8, .inl f34)), (ra 25, .inl (kI, 8, .inl f35))]) hP hD [5, 6, 0, 1, 2, 3, 4] rfl (by decide +kernel)
            have hP9 := hPD9.1
            have hD9 := hPD9.2
            exact W.iret (v := z36) hx hb hr (fun t ht hW => ⟨⟨z36, (), rfl, (iv_w b37 (by decide) (by decide)), upd (upd x0 0 0) 21 z36, q_status, f30, f32, f34, f35, (fI_u (fI_u hX (k := 0) ((iv_w ivk_0 (by decide) (by decide)))) (k := 21) ((iv_w b37 (by decide) (by decide)))), hf31, hf33, (show x0 1 = x0 1 from rfl), (show x0 10 = x0 10 from rfl), (show x0 11 = x0 11 from rfl), (show x0 14 = x0 14 from rfl), by rw [ht]; exact hP9, hD9⟩, hS.F ht⟩) hS.2.2 dX11_note_106
          · have b38 : iv 0 0 r25 := iv_eqL c27 ivk_0
            have hPD9 := cl_s (wc := [(m0, .inr (11, oX11 ra (upd x0 0 0))), (ra 2, .inl (kI, 8, .inl q_told)), (ra 12, .inl (kI, 3, .inl q_status)), (ra 22, .inl (kI, 8, .inl q_notedPort)), (ra 23, .inl (kI, 8, .inl q_notedGoal)), (ra 24, .inl (kI, 8, .inl q_notedHop)), (ra 25, .inl (kI, 8, .inl q_notedAddress))]) hP hD [5, 6, 0, 1, 2, 3, 4] rfl (by decide +kernel)
            exact hJ45 (upd x0 0 0) _ _ _ ((fI_u hX (k := 0) ((iv_w ivk_0 (by decide) (by decide))))) (ivk_0) ((show x0 1 = x0 1 from rfl)) ((show x0 10 = x0 10 from rfl)) ((show x0 11 = x0 11 from rfl)) ((show x0 14 = x0 14 from rfl)) (hPD9.1) (hPD9.2) hS (lv_sub hl [0, 1, 2, 3, 4] rfl)
def rm_s11_forget : Room := { frames := 0, cells := 0, slots := 0, locals := 0 }
set_option maxHeartbeats 4000000 in
set_option maxRecDepth 100000 in
theorem s11_forget (l : Launch) (dC : Nat → ClassId) (dI : Nat → Nat → Nat) (kB kI kJ kZ kC kS : ClassId) (sz : Nat) (m0 : Nat) (ra : Nat → Nat) (x0 : Nat → Int32) (hX : fI lX11 hX11 x0) : Met l yX11_forget wsX11_forget rm_s11_forget (va_Pc [.ref m0] (fun U => U.heap.size = sz ∧ va_P (dC, dI) vwCl [(m0, .inr (11, oX11 ra x0))] U.heap ∧ kE dC dI kB kI kJ kZ kC kS U ∧ va_D (fun _ => True) [(m0, .inr (11, oX11 ra x0))])) (va_Qv (fun (_ : Unit) => True) (fun _ t => ∃ (x0' : Nat → Int32), fI lX11 hX11 x0' ∧ (x0' 1 = x0 1) ∧ (x0' 10 = x0 10) ∧ (x0' 11 = x0 11) ∧ (x0' 14 = x0 14) ∧ va_P (dC, dI) vwCl [(m0, .inr (11, oX11 ra x0'))] t.heap ∧ va_D (va_A [(m0, .inr (11, oX11 ra x0))] sz) [(m0, .inr (11, oX11 ra x0'))]) (va_A [(m0, .inr (11, oX11 ra x0))] sz)) 0 0 (va_A [(m0, .inr (11, oX11 ra x0))] sz) := by
  refine Met.ofW (cc := cX11_forget) (maxL := 1) (ret := none) (by decide) rfl ?_
  intro p e s m args0 below meth c s₁ B hml hv
  obtain ⟨hargs, hsz, hP, hE, hD0⟩ := hv
  have hx := B.exec
  have hb := B.bytes
  have hr := B.returns
  have hts := atoms_spec (ws := wsX11_forget) B.pre
  have hown : s.vm.findClass RX11 = some m.cls := findClass_of_methodNamed B.named
  have hlocks := B.notSynchronized
  have hK := hE.1
  have hin11 : ∀ w ∈ wsX110, w ∈ wsX11_forget := fun _ h9 => List.mem_cons_of_mem _ (List.mem_append_right _ h9)
  have hw_0 := hts (.fieldLink RX11 142 "PathProberModel" "code" "I") (List.mem_of_getElem? (i := 1) rfl)
  have hw_1 := hts (.fieldLink RX11 253 "PathProberModel" "noted" "I") (List.mem_of_getElem? (i := 2) rfl)
  subst hsz
  have hD := hD0.self (sz := s.heap.size)
  generalize hAe : va_A [(m0, .inr (11, oX11 ra x0))] s.heap.size = A at hD ⊢
  have hA : ∀ q : Nat, s.heap.size ≤ q → A q := fun q h => by rw [← hAe]; exact Or.inr h
  have hS : va_S A s.heap s.heap [] := va_S.rf
  have hP : va_P (dC, dI) vwCl [(m0, .inr (11, oX11 ra x0))] s.heap := hP
  have hl := lv_entry ([.ref m0]) (n := 1) (Nat.le_of_ble_eq_true rfl)
  have hla : entryFrame m args0 1 = entryFrame m ([.ref m0] : List Value).toArray 1 := by rw [hargs]
  rw [hla, lg_entry_eq]
  generalize (lg_sl ([.ref m0]) ++ List.replicate (1 - (lg_sl ([.ref m0])).length) Slot.unset).toArray = ls at hl ⊢
  have hl : lv_has ls 1 [(0, .ref m0)] := hl
  refine lv_aload_n hx hb dX11_forget_0 rfl (lv_at hl 0 rfl) ?_
  refine lv_iconst (v := 0) hx hb dX11_forget_1 ic_0 ?_
  refine va_put (D := (dC, dI)) (ci := 11) (v := .int 0) (ty := .int) (C := RX11) (T := TX11) (N := 61) hx hb hts hin11 tyX11 tyX11_ok nmX11 hown hK hP hD hS 0 rfl rfl 2 (by decide) hw_0 (fun _ h9 => h9) rfl (by decide +kernel) rfl rfl (Nat.le_of_ble_eq_true rfl) dX11_forget_2 (fun H locs hPa hDa hS => ?_)
  clear hP hD
  have hP : va_P (dC, dI) vwCl [(m0, .inr (11, oX11 ra (upd x0 0 0)))] H := hPa
  have hD : va_D A [(m0, .inr (11, oX11 ra (upd x0 0 0)))] := hDa
  clear hPa hDa
  refine lv_aload_n hx hb dX11_forget_5 rfl (lv_at hl 0 rfl) ?_
  refine lv_iconst (v := 0) hx hb dX11_forget_6 ic_0 ?_
  refine va_put (D := (dC, dI)) (ci := 11) (v := .int 0) (ty := .int) (C := RX11) (T := TX11) (N := 61) hx hb hts hin11 tyX11 tyX11_ok nmX11 hown hK hP hD hS 0 rfl rfl 43 (by decide) hw_1 (fun _ h9 => h9) rfl (by decide +kernel) rfl rfl (Nat.le_of_ble_eq_true rfl) dX11_forget_7 (fun H locs hPa hDa hS => ?_)
  clear hP hD
  have hP : va_P (dC, dI) vwCl [(m0, .inr (11, oX11 ra (upd (upd x0 0 0) 21 0)))] H := hPa
  have hD : va_D A [(m0, .inr (11, oX11 ra (upd (upd x0 0 0) 21 0)))] := hDa
  clear hPa hDa
  have hP9 := hP
  have hD9 := hD
  exact W.vret hx hb hr (fun t ht hW => ⟨⟨(), rfl, trivial, upd (upd x0 0 0) 21 0, (fI_u (fI_u hX (k := 0) ((iv_w ivk_0 (by decide) (by decide)))) (k := 21) ((iv_w ivk_0 (by decide) (by decide)))), (show x0 1 = x0 1 from rfl), (show x0 10 = x0 10 from rfl), (show x0 11 = x0 11 from rfl), (show x0 14 = x0 14 from rfl), by rw [ht]; exact hP9, hD9⟩, hS.F ht⟩) hS.2.2 dX11_forget_10
def rm_s11_fits : Room := { frames := 6, cells := 0, slots := 0, locals := 149 }
set_option maxHeartbeats 4000000 in
set_option maxRecDepth 100000 in
theorem s11_fits (l : Launch) (dC : Nat → ClassId) (dI : Nat → Nat → Nat) (kB kI kJ kZ kC kS : ClassId) (sz : Nat) (m0 : Nat) (ra : Nat → Nat) (x0 : Nat → Int32) (q_told : Nat → Int32) (q_kind : Nat → Int32) (q_salt : Nat → Int32) (q_mute : Nat → Int32) (q_late : Nat → Int32) (q_from : Nat → Int32) (q_to : Nat → Int32) (q_goal : Nat → Int32) (q_now : Nat → Int32) (q_reach : Nat → Int32) (q_notedPort : Nat → Int32) (q_notedGoal : Nat → Int32) (q_notedHop : Nat → Int32) (q_notedAddress : Nat → Int32) (q_fitting : Nat → Int32) (p0 : Int32) (p1 : Int32) (hX : fI lX11 hX11 x0) (hq_told : fI lTold hTold q_told) (hq_salt : fI (fun _ => 0) (fun _ => 15) q_salt) (hq_from : fI (fun _ => 0) (fun _ => 11) q_from) (hq_to : fI (fun _ => 0) (fun _ => 11) q_to) (hq_goal : fI (fun _ => 0) (fun _ => 11) q_goal) (hq_now : fI lNow hNow q_now) (hq_notedPort : fI (fun _ => 0) (fun _ => 31) q_notedPort) (hq_notedGoal : fI (fun _ => 0) (fun _ => 2) q_notedGoal) (hLT : ∀ j : Nat, (j : Int) < (q_told 1).toInt → (q_from j).toInt < (q_to j).toInt) (hfl11 : iv (-1) (-1) (x0 11)) : Met l yX11_fits wsX11_fits rm_s11_fits (va_Pc [.ref m0, .int p0, .int p1] (fun U => U.heap.size = sz ∧ va_P (dC, dI) vwCl [(m0, .inr (11, oX11 ra x0)), (ra 2, .inl (kI, 8, .inl q_told)), (ra 3, .inl (kI, 24, .inl q_kind)), (ra 4, .inl (kI, 24, .inl q_salt)), (ra 6, .inl (kI, 24, .inl q_mute)), (ra 7, .inl (kI, 24, .inl q_late)), (ra 8, .inl (kI, 40, .inl q_from)), (ra 9, .inl (kI, 40, .inl q_to)), (ra 10, .inl (kI, 6, .inl q_goal)), (ra 11, .inl (kI, 1019, .inl q_now)), (ra 14, .inl (kI, 12, .inl q_reach)), (ra 22, .inl (kI, 8, .inl q_notedPort)), (ra 23, .inl (kI, 8, .inl q_notedGoal)), (ra 24, .inl (kI, 8, .inl q_notedHop)), (ra 25, .inl (kI, 8, .inl q_notedAddress)), (ra 26, .inl (kZ, 64, .inl q_fitting))] U.heap ∧ kE dC dI kB kI kJ kZ kC kS U ∧ va_D (fun _ => True) [(m0, .inr (11, oX11 ra x0)), (ra 2, .inl (kI, 8, .inl q_told)), (ra 3, .inl (kI, 24, .inl q_kind)), (ra 4, .inl (kI, 24, .inl q_salt)), (ra 6, .inl (kI, 24, .inl q_mute)), (ra 7, .inl (kI, 24, .inl q_late)), (ra 8, .inl (kI, 40, .inl q_from)), (ra 9, .inl (kI, 40, .inl q_to)), (ra 10, .inl (kI, 6, .inl q_goal)), (ra 11, .inl (kI, 1019, .inl q_now)), (ra 14, .inl (kI, 12, .inl q_reach)), (ra 22, .inl (kI, 8, .inl q_notedPort)), (ra 23, .inl (kI, 8, .inl q_notedGoal)), (ra 24, .inl (kI, 8, .inl q_notedHop)), (ra 25, .inl (kI, 8, .inl q_notedAddress)), (ra 26, .inl (kZ, 64, .inl q_fitting))])) (va_Qi (fun (r : Int32) (_ : Unit) => True) (fun _ t => ∃ (x0' : Nat → Int32) (q_now' : Nat → Int32) (q_fitting' : Nat → Int32), fI lX11 hX11 x0' ∧ iv (-1) (-1) (x0' 11) ∧ fI lNow hNow q_now' ∧ (x0' 1 = x0 1) ∧ (x0' 10 = x0 10) ∧ (x0' 14 = x0 14) ∧ va_P (dC, dI) vwCl [(m0, .inr (11, oX11 ra x0')), (ra 2, .inl (kI, 8, .inl q_told)), (ra 3, .inl (kI, 24, .inl q_kind)), (ra 4, .inl (kI, 24, .inl q_salt)), (ra 6, .inl (kI, 24, .inl q_mute)), (ra 7, .inl (kI, 24, .inl q_late)), (ra 8, .inl (kI, 40, .inl q_from)), (ra 9, .inl (kI, 40, .inl q_to)), (ra 10, .inl (kI, 6, .inl q_goal)), (ra 11, .inl (kI, 1019, .inl q_now')), (ra 14, .inl (kI, 12, .inl q_reach)), (ra 22, .inl (kI, 8, .inl q_notedPort)), (ra 23, .inl (kI, 8, .inl q_notedGoal)), (ra 24, .inl (kI, 8, .inl q_notedHop)), (ra 25, .inl (kI, 8, .inl q_notedAddress)), (ra 26, .inl (kZ, 64, .inl q_fitting'))] t.heap ∧ va_D (va_A [(m0, .inr (11, oX11 ra x0)), (ra 2, .inl (kI, 8, .inl q_told)), (ra 3, .inl (kI, 24, .inl q_kind)), (ra 4, .inl (kI, 24, .inl q_salt)), (ra 6, .inl (kI, 24, .inl q_mute)), (ra 7, .inl (kI, 24, .inl q_late)), (ra 8, .inl (kI, 40, .inl q_from)), (ra 9, .inl (kI, 40, .inl q_to)), (ra 10, .inl (kI, 6, .inl q_goal)), (ra 11, .inl (kI, 1019, .inl q_now)), (ra 14, .inl (kI, 12, .inl q_reach)), (ra 22, .inl (kI, 8, .inl q_notedPort)), (ra 23, .inl (kI, 8, .inl q_notedGoal)), (ra 24, .inl (kI, 8, .inl q_notedHop)), (ra 25, .inl (kI, 8, .inl q_notedAddress)), (ra 26, .inl (kZ, 64, .inl q_fitting))] sz) [(m0, .inr (11, oX11 ra x0')), (ra 2, .inl (kI, 8, .inl q_told)), (ra 3, .inl (kI, 24, .inl q_kind)), (ra 4, .inl (kI, 24, .inl q_salt)), (ra 6, .inl (kI, 24, .inl q_mute)), (ra 7, .inl (kI, 24, .inl q_late)), (ra 8, .inl (kI, 40, .inl q_from)), (ra 9, .inl (kI, 40, .inl q_to)), (ra 10, .inl (kI, 6, .inl q_goal)), (ra 11, .inl (kI, 1019, .inl q_now')), (ra 14, .inl (kI, 12, .inl q_reach)), (ra 22, .inl (kI, 8, .inl q_notedPort)), (ra 23, .inl (kI, 8, .inl q_notedGoal)), (ra 24, .inl (kI, 8, .inl q_notedHop)), (ra 25, .inl (kI, 8, .inl q_notedAddress)), (ra 26, .inl (kZ, 64, .inl q_fitting'))]) (va_A [(m0, .inr (11, oX11 ra x0)), (ra 2, .inl (kI, 8, .inl q_told)), (ra 3, .inl (kI, 24, .inl q_kind)), (ra 4, .inl (kI, 24, .inl q_salt)), (ra 6, .inl (kI, 24, .inl q_mute)), (ra 7, .inl (kI, 24, .inl q_late)), (ra 8, .inl (kI, 40, .inl q_from)), (ra 9, .inl (kI, 40, .inl q_to)), (ra 10, .inl (kI, 6, .inl q_goal)), (ra 11, .inl (kI, 1019, .inl q_now)), (ra 14, .inl (kI, 12, .inl q_reach)), (ra 22, .inl (kI, 8, .inl q_notedPort)), (ra 23, .inl (kI, 8, .inl q_notedGoal)), (ra 24, .inl (kI, 8, .inl q_notedHop)), (ra 25, .inl (kI, 8, .inl q_notedAddress)), (ra 26, .inl (kZ, 64, .inl q_fitting))] sz)) 0 0 (va_A [(m0, .inr (11, oX11 ra x0)), (ra 2, .inl (kI, 8, .inl q_told)), (ra 3, .inl (kI, 24, .inl q_kind)), (ra 4, .inl (kI, 24, .inl q_salt)), (ra 6, .inl (kI, 24, .inl q_mute)), (ra 7, .inl (kI, 24, .inl q_late)), (ra 8, .inl (kI, 40, .inl q_from)), (ra 9, .inl (kI, 40, .inl q_to)), (ra 10, .inl (kI, 6, .inl q_goal)), (ra 11, .inl (kI, 1019, .inl q_now)), (ra 14, .inl (kI, 12, .inl q_reach)), (ra 22, .inl (kI, 8, .inl q_notedPort)), (ra 23, .inl (kI, 8, .inl q_notedGoal)), (ra 24, .inl (kI, 8, .inl q_notedHop)), (ra 25, .inl (kI, 8, .inl q_notedAddress)), (ra 26, .inl (kZ, 64, .inl q_fitting))] sz) := by
  refine Met.ofW (cc := cX11_fits) (maxL := 6) (ret := (some .int)) (by decide) rfl ?_
  intro p e s m args0 below meth c s₁ B hml hv
  obtain ⟨hargs, hsz, hP, hE, hD0⟩ := hv
  have hx := B.exec
  have hb := B.bytes
  have hr := B.returns
  have hts := atoms_spec (ws := wsX11_fits) B.pre
  have hown : s.vm.findClass RX11 = some m.cls := findClass_of_methodNamed B.named
  have hlocks := B.notSynchronized
  have hK := hE.1
  have hin11 : ∀ w ∈ wsX110, w ∈ wsX11_fits := fun _ h9 => List.mem_cons_of_mem _ (List.mem_append_right _ h9)
  have hw_0 := hts (.fieldLink RX11 115 "PathProberModel" "fitting" "[Z") (List.mem_of_getElem? (i := 2) rfl)
  have hw_1 := hts (.fieldLink RX11 142 "PathProberModel" "code" "I") (List.mem_of_getElem? (i := 1) rfl)
  subst hsz
  have hD := hD0.self (sz := s.heap.size)
  generalize hAe : va_A [(m0, .inr (11, oX11 ra x0)), (ra 2, .inl (kI, 8, .inl q_told)), (ra 3, .inl (kI, 24, .inl q_kind)), (ra 4, .inl (kI, 24, .inl q_salt)), (ra 6, .inl (kI, 24, .inl q_mute)), (ra 7, .inl (kI, 24, .inl q_late)), (ra 8, .inl (kI, 40, .inl q_from)), (ra 9, .inl (kI, 40, .inl q_to)), (ra 10, .inl (kI, 6, .inl q_goal)), (ra 11, .inl (kI, 1019, .inl q_now)), (ra 14, .inl (kI, 12, .inl q_reach)), (ra 22, .inl (kI, 8, .inl q_notedPort)), (ra 23, .inl (kI, 8, .inl q_notedGoal)), (ra 24, .inl (kI, 8, .inl q_notedHop)), (ra 25, .inl (kI, 8, .inl q_notedAddress)), (ra 26, .inl (kZ, 64, .inl q_fitting))] s.heap.size = A at hD ⊢
  have hA : ∀ q : Nat, s.heap.size ≤ q → A q := fun q h => by rw [← hAe]; exact Or.inr h
  have hS : va_S A s.heap s.heap [] := va_S.rf
  have hP : va_P (dC, dI) vwCl [(m0, .inr (11, oX11 ra x0)), (ra 2, .inl (kI, 8, .inl q_told)), (ra 3, .inl (kI, 24, .inl q_kind)), (ra 4, .inl (kI, 24, .inl q_salt)), (ra 6, .inl (kI, 24, .inl q_mute)), (ra 7, .inl (kI, 24, .inl q_late)), (ra 8, .inl (kI, 40, .inl q_from)), (ra 9, .inl (kI, 40, .inl q_to)), (ra 10, .inl (kI, 6, .inl q_goal)), (ra 11, .inl (kI, 1019, .inl q_now)), (ra 14, .inl (kI, 12, .inl q_reach)), (ra 22, .inl (kI, 8, .inl q_notedPort)), (ra 23, .inl (kI, 8, .inl q_notedGoal)), (ra 24, .inl (kI, 8, .inl q_notedHop)), (ra 25, .inl (kI, 8, .inl q_notedAddress)), (ra 26, .inl (kZ, 64, .inl q_fitting))] s.heap := hP
  have hl := lv_entry ([.ref m0, .int p0, .int p1]) (n := 6) (Nat.le_of_ble_eq_true rfl)
  have hla : entryFrame m args0 6 = entryFrame m ([.ref m0, .int p0, .int p1] : List Value).toArray 6 := by rw [hargs]
  rw [hla, lg_entry_eq]
  generalize (lg_sl ([.ref m0, .int p0, .int p1]) ++ List.replicate (6 - (lg_sl ([.ref m0, .int p0, .int p1])).length) Slot.unset).toArray = ls at hl ⊢
  have hl : lv_has ls 6 [(0, .ref m0), (1, .int p0), (2, .int p1)] := hl
  have hJ22 : ∀ (y22_0 : Nat → Int32) (H : Heap) (locs : List Loc) (ls : Array Slot), fI lX11 hX11 y22_0 → iv 0 0 (y22_0 0) → iv (-1) (-1) (y22_0 11) → (y22_0 1 = x0 1) → (y22_0 10 = x0 10) → (y22_0 14 = x0 14) → va_P (dC, dI) vwCl [(m0, .inr (11, oX11 ra y22_0)), (ra 2, .inl (kI, 8, .inl q_told)), (ra 3, .inl (kI, 24, .inl q_kind)), (ra 4, .inl (kI, 24, .inl q_salt)), (ra 6, .inl (kI, 24, .inl q_mute)), (ra 7, .inl (kI, 24, .inl q_late)), (ra 8, .inl (kI, 40, .inl q_from)), (ra 9, .inl (kI, 40, .inl q_to)), (ra 10, .inl (kI, 6, .inl q_goal)), (ra 11, .inl (kI, 1019, .inl q_now)), (ra 14, .inl (kI, 12, .inl q_reach)), (ra 22, .inl (kI, 8, .inl q_notedPort)), (ra 23, .inl (kI, 8, .inl q_notedGoal)), (ra 24, .inl (kI, 8, .inl q_notedHop)), (ra 25, .inl (kI, 8, .inl q_notedAddress)), (ra 26, .inl (kZ, 64, .inl q_fitting))] H → va_D A [(m0, .inr (11, oX11 ra y22_0)), (ra 2, .inl (kI, 8, .inl q_told)), (ra 3, .inl (kI, 24, .inl q_kind)), (ra 4, .inl (kI, 24, .inl q_salt)), (ra 6, .inl (kI, 24, .inl q_mute)), (ra 7, .inl (kI, 24, .inl q_late)), (ra 8, .inl (kI, 40, .inl q_from)), (ra 9, .inl (kI, 40, .inl q_to)), (ra 10, .inl (kI, 6, .inl q_goal)), (ra 11, .inl (kI, 1019, .inl q_now)), (ra 14, .inl (kI, 12, .inl q_reach)), (ra 22, .inl (kI, 8, .inl q_notedPort)), (ra 23, .inl (kI, 8, .inl q_notedGoal)), (ra 24, .inl (kI, 8, .inl q_notedHop)), (ra 25, .inl (kI, 8, .inl q_notedAddress)), (ra 26, .inl (kZ, 64, .inl q_fitting))] → va_S A s.heap H locs → lv_has ls 6 [(0, .ref m0), (1, .int p0), (2, .int p1)] → W p l e (headSpec wsX11_fits rm_s11_fits).room s m args0 below meth c H locs (0) (0) (MQ below (va_Qi (fun (r : Int32) (_ : Unit) => True) (fun _ t => ∃ (x0' : Nat → Int32) (q_now' : Nat → Int32) (q_fitting' : Nat → Int32), fI lX11 hX11 x0' ∧ iv (-1) (-1) (x0' 11) ∧ fI lNow hNow q_now' ∧ (x0' 1 = x0 1) ∧ (x0' 10 = x0 10) ∧ (x0' 14 = x0 14) ∧ va_P (dC, dI) vwCl [(m0, .inr (11, oX11 ra x0')), (ra 2, .inl (kI, 8, .inl q_told)), (ra 3, .inl (kI, 24, .inl q_kind)), (ra 4, .inl (kI, 24, .inl q_salt)), (ra 6, .inl (kI, 24, .inl q_mute)), (ra 7, .inl (kI, 24, .inl q_late)), (ra 8, .inl (kI, 40, .inl q_from)), (ra 9, .inl (kI, 40, .inl q_to)), (ra 10, .inl (kI, 6, .inl q_goal)), (ra 11, .inl (kI, 1019, .inl q_now')), (ra 14, .inl (kI, 12, .inl q_reach)), (ra 22, .inl (kI, 8, .inl q_notedPort)), (ra 23, .inl (kI, 8, .inl q_notedGoal)), (ra 24, .inl (kI, 8, .inl q_notedHop)), (ra 25, .inl (kI, 8, .inl q_notedAddress)), (ra 26, .inl (kZ, 64, .inl q_fitting'))] t.heap ∧ va_D A [(m0, .inr (11, oX11 ra x0')), (ra 2, .inl (kI, 8, .inl q_told)), (ra 3, .inl (kI, 24, .inl q_kind)), (ra 4, .inl (kI, 24, .inl q_salt)), (ra 6, .inl (kI, 24, .inl q_mute)), (ra 7, .inl (kI, 24, .inl q_late)), (ra 8, .inl (kI, 40, .inl q_from)), (ra 9, .inl (kI, 40, .inl q_to)), (ra 10, .inl (kI, 6, .inl q_goal)), (ra 11, .inl (kI, 1019, .inl q_now')), (ra 14, .inl (kI, 12, .inl q_reach)), (ra 22, .inl (kI, 8, .inl q_notedPort)), (ra 23, .inl (kI, 8, .inl q_notedGoal)), (ra 24, .inl (kI, 8, .inl q_notedHop)), (ra 25, .inl (kI, 8, .inl q_notedAddress)), (ra 26, .inl (kZ, 64, .inl q_fitting'))]) A) args0 s 0 0 A) (F0 m 22 ls []) := by
    intro y22_0 H locs ls hI22_0 h22_2 h22_3 htp_22 hfp_22 hirl_22 hP hD hS hl
    refine lv_aload_n hx hb dX11_fits_22 rfl (lv_at hl 0 rfl) ?_
    refine lv_iconst (v := 1) hx hb dX11_fits_23 ic_1 ?_
    obtain ⟨hPc, hDc, hFc, hJn⟩ := cl_a (wc := [(m0, .inr (11, oX11 ra y22_0))]) (wr := [(ra 2, .inl (kI, 8, .inl q_told)), (ra 3, .inl (kI, 24, .inl q_kind)), (ra 4, .inl (kI, 24, .inl q_salt)), (ra 6, .inl (kI, 24, .inl q_mute)), (ra 7, .inl (kI, 24, .inl q_late)), (ra 8, .inl (kI, 40, .inl q_from)), (ra 9, .inl (kI, 40, .inl q_to)), (ra 10, .inl (kI, 6, .inl q_goal)), (ra 11, .inl (kI, 1019, .inl q_now)), (ra 14, .inl (kI, 12, .inl q_reach)), (ra 22, .inl (kI, 8, .inl q_notedPort)), (ra 23, .inl (kI, 8, .inl q_notedGoal)), (ra 24, .inl (kI, 8, .inl q_notedHop)), (ra 25, .inl (kI, 8, .inl q_notedAddress)), (ra 26, .inl (kZ, 64, .inl q_fitting))]) hP hD hS hA [0] [1, 2, 3, 4, 5, 6, 7, 8, 9, 10, 11, 12, 13, 14, 15] rfl rfl (by decide +kernel)
    refine va_calli (va_runV (As := [.int 1]) (rest := []) ⟨hx, hb, hml, hown, hts⟩ (s11_fail l dC dI kB kI kJ kZ kC kS H.size m0 ra y22_0 1 (hI22_0)) (cwV 1 hts gX11_fits_X11_fail rfl rfl rfl (by decide +kernel) ⟨Nat.le_of_ble_eq_true rfl, Nat.le_of_ble_eq_true rfl⟩) ⟨fun a U g mk q => by obtain ⟨q0, q1, qP, qE, qD⟩ := q; exact ⟨q0, q1, qP, kE_call qE, qD⟩, va_recv hK hP (ci := 11) (q0 := 0) rfl rfl, fun U hU hW => ⟨rfl, by rw [hU], by rw [hU]; exact hPc, kE_warm hW hE, hDc.weaken (fun _ _ _ _ => trivial)⟩⟩ rfl rfl hl.1 rfl (lv_room (Nat.le_of_ble_eq_true rfl)) dX11_fits_24 ⟨Nat.le_of_ble_eq_true rfl, Nat.le_of_ble_eq_true rfl⟩) hS (fun q _ h => hFc q h) hFc (fun r1 u t H locs ht hvm w2 hB hz1 hk1 hS => ?_)
    obtain ⟨y3, hq4, hq5, hq6, hq7, hq8, hq9, hP1, hD1⟩ := hB
    try dsimp only at w2
    obtain ⟨hPa, hDa⟩ := hJn (w1 := [(m0, .inr (11, oX11 ra y3))]) hk1 ht hP1 hD1
    clear hP hD hPc hDc hFc hJn hP1 hD1 hk1
    have hP : va_P (dC, dI) vwCl [(ra 2, .inl (kI, 8, .inl q_told)), (ra 3, .inl (kI, 24, .inl q_kind)), (ra 4, .inl (kI, 24, .inl q_salt)), (ra 6, .inl (kI, 24, .inl q_mute)), (ra 7, .inl (kI, 24, .inl q_late)), (ra 8, .inl (kI, 40, .inl q_from)), (ra 9, .inl (kI, 40, .inl q_to)), (ra 10, .inl (kI, 6, .inl q_goal)), (ra 11, .inl (kI, 1019, .inl q_now)), (ra 14, .inl (kI, 12, .inl q_reach)), (ra 22, .inl (kI, 8, .inl q_notedPort)), (ra 23, .inl (kI, 8, .inl q_notedGoal)), (ra 24, .inl (kI, 8, .inl q_notedHop)), (ra 25, .inl (kI, 8, .inl q_notedAddress)), (ra 26, .inl (kZ, 64, .inl q_fitting)), (m0, .inr (11, oX11 ra y3))] H := hPa
    have hD : va_D A [(ra 2, .inl (kI, 8, .inl q_told)), (ra 3, .inl (kI, 24, .inl q_kind)), (ra 4, .inl (kI, 24, .inl q_salt)), (ra 6, .inl (kI, 24, .inl q_mute)), (ra 7, .inl (kI, 24, .inl q_late)), (ra 8, .inl (kI, 40, .inl q_from)), (ra 9, .inl (kI, 40, .inl q_to)), (ra 10, .inl (kI, 6, .inl q_goal)), (ra 11, .inl (kI, 1019, .inl q_now)), (ra 14, .inl (kI, 12, .inl q_reach)), (ra 22, .inl (kI, 8, .inl q_notedPort)), (ra 23, .inl (kI, 8, .inl q_notedGoal)), (ra 24, .inl (kI, 8, .inl q_notedHop)), (ra 25, .inl (kI, 8, .inl q_notedAddress)), (ra 26, .inl (kZ, 64, .inl q_fitting)), (m0, .inr (11, oX11 ra y3))] := hDa
    clear hPa hDa
    refine W.widen (k := 0) (n := 0) (Nat.le_of_ble_eq_true rfl) (Nat.le_of_ble_eq_true rfl) ?_
    obtain rfl : r1 = 0 := iv_one w2 (by decide)
    have hPD9 := cl_s (wc := [(m0, .inr (11, oX11 ra y3)), (ra 2, .inl (kI, 8, .inl q_told)), (ra 3, .inl (kI, 24, .inl q_kind)), (ra 4, .inl (kI, 24, .inl q_salt)), (ra 6, .inl (kI, 24, .inl q_mute)), (ra 7, .inl (kI, 24, .inl q_late)), (ra 8, .inl (kI, 40, .inl q_from)), (ra 9, .inl (kI, 40, .inl q_to)), (ra 10, .inl (kI, 6, .inl q_goal)), (ra 11, .inl (kI, 1019, .inl q_now)), (ra 14, .inl (kI, 12, .inl q_reach)), (ra 22, .inl (kI, 8, .inl q_notedPort)), (ra 23, .inl (kI, 8, .inl q_notedGoal)), (ra 24, .inl (kI, 8, .inl q_notedHop)), (ra 25, .inl (kI, 8, .inl q_notedAddress)), (ra 26, .inl (kZ, 64, .inl q_fitting))]) hP hD [15, 0, 1, 2, 3, 4, 5, 6, 7, 8, 9, 10, 11, 12, 13, 14] rfl (by decide +kernel)
    have hP9 := hPD9.1
    have hD9 := hPD9.2
    exact W.iret (v := 0) hx hb hr (fun t ht hW => ⟨⟨0, (), rfl, trivial, y3, q_now, q_fitting, hq4, (iv_eqL hq8 h22_3), hq_now, (show y3 1 = x0 1 from hq6.trans (htp_22)), (show y3 10 = x0 10 from hq7.trans (hfp_22)), (show y3 14 = x0 14 from hq9.trans (hirl_22)), by rw [ht]; exact hP9, hD9⟩, hS.F ht⟩) hS.2.2 dX11_fits_27
  have hJ41 : ∀ (n : Nat) (y41_0 : Nat → Int32) (g41_9 : Nat → Int32) (g41_15 : Nat → Int32) (v41_loc3 : Int32) (v41_loc4 : Int32) (v41_loc5 : Int32) (H : Heap) (locs : List Loc) (ls : Array Slot), (64 - v41_loc5.toInt).toNat < n → fI lX11 hX11 y41_0 → fI lNow hNow g41_9 → iv 0 11 p0 → iv 0 1 p1 → iv (-1) 63 v41_loc4 → iv 0 64 v41_loc5 → iv (-1) (-1) (y41_0 11) → (y41_0 1 = x0 1) → (y41_0 10 = x0 10) → (y41_0 14 = x0 14) → va_P (dC, dI) vwCl [(m0, .inr (11, oX11 ra y41_0)), (ra 2, .inl (kI, 8, .inl q_told)), (ra 3, .inl (kI, 24, .inl q_kind)), (ra 4, .inl (kI, 24, .inl q_salt)), (ra 6, .inl (kI, 24, .inl q_mute)), (ra 7, .inl (kI, 24, .inl q_late)), (ra 8, .inl (kI, 40, .inl q_from)), (ra 9, .inl (kI, 40, .inl q_to)), (ra 10, .inl (kI, 6, .inl q_goal)), (ra 11, .inl (kI, 1019, .inl g41_9)), (ra 14, .inl (kI, 12, .inl q_reach)), (ra 22, .inl (kI, 8, .inl q_notedPort)), (ra 23, .inl (kI, 8, .inl q_notedGoal)), (ra 24, .inl (kI, 8, .inl q_notedHop)), (ra 25, .inl (kI, 8, .inl q_notedAddress)), (ra 26, .inl (kZ, 64, .inl g41_15))] H → va_D A [(m0, .inr (11, oX11 ra y41_0)), (ra 2, .inl (kI, 8, .inl q_told)), (ra 3, .inl (kI, 24, .inl q_kind)), (ra 4, .inl (kI, 24, .inl q_salt)), (ra 6, .inl (kI, 24, .inl q_mute)), (ra 7, .inl (kI, 24, .inl q_late)), (ra 8, .inl (kI, 40, .inl q_from)), (ra 9, .inl (kI, 40, .inl q_to)), (ra 10, .inl (kI, 6, .inl q_goal)), (ra 11, .inl (kI, 1019, .inl g41_9)), (ra 14, .inl (kI, 12, .inl q_reach)), (ra 22, .inl (kI, 8, .inl q_notedPort)), (ra 23, .inl (kI, 8, .inl q_notedGoal)), (ra 24, .inl (kI, 8, .inl q_notedHop)), (ra 25, .inl (kI, 8, .inl q_notedAddress)), (ra 26, .inl (kZ, 64, .inl g41_15))] → va_S A s.heap H locs → lv_has ls 6 [(0, .ref m0), (1, .int p0), (2, .int p1), (3, .int v41_loc3), (4, .int v41_loc4), (5, .int v41_loc5)] → W p l e (headSpec wsX11_fits rm_s11_fits).room s m args0 below meth c H locs (0) (0) (MQ below (va_Qi (fun (r : Int32) (_ : Unit) => True) (fun _ t => ∃ (x0' : Nat → Int32) (q_now' : Nat → Int32) (q_fitting' : Nat → Int32), fI lX11 hX11 x0' ∧ iv (-1) (-1) (x0' 11) ∧ fI lNow hNow q_now' ∧ (x0' 1 = x0 1) ∧ (x0' 10 = x0 10) ∧ (x0' 14 = x0 14) ∧ va_P (dC, dI) vwCl [(m0, .inr (11, oX11 ra x0')), (ra 2, .inl (kI, 8, .inl q_told)), (ra 3, .inl (kI, 24, .inl q_kind)), (ra 4, .inl (kI, 24, .inl q_salt)), (ra 6, .inl (kI, 24, .inl q_mute)), (ra 7, .inl (kI, 24, .inl q_late)), (ra 8, .inl (kI, 40, .inl q_from)), (ra 9, .inl (kI, 40, .inl q_to)), (ra 10, .inl (kI, 6, .inl q_goal)), (ra 11, .inl (kI, 1019, .inl q_now')), (ra 14, .inl (kI, 12, .inl q_reach)), (ra 22, .inl (kI, 8, .inl q_notedPort)), (ra 23, .inl (kI, 8, .inl q_notedGoal)), (ra 24, .inl (kI, 8, .inl q_notedHop)), (ra 25, .inl (kI, 8, .inl q_notedAddress)), (ra 26, .inl (kZ, 64, .inl q_fitting'))] t.heap ∧ va_D A [(m0, .inr (11, oX11 ra x0')), (ra 2, .inl (kI, 8, .inl q_told)), (ra 3, .inl (kI, 24, .inl q_kind)), (ra 4, .inl (kI, 24, .inl q_salt)), (ra 6, .inl (kI, 24, .inl q_mute)), (ra 7, .inl (kI, 24, .inl q_late)), (ra 8, .inl (kI, 40, .inl q_from)), (ra 9, .inl (kI, 40, .inl q_to)), (ra 10, .inl (kI, 6, .inl q_goal)), (ra 11, .inl (kI, 1019, .inl q_now')), (ra 14, .inl (kI, 12, .inl q_reach)), (ra 22, .inl (kI, 8, .inl q_notedPort)), (ra 23, .inl (kI, 8, .inl q_notedGoal)), (ra 24, .inl (kI, 8, .inl q_notedHop)), (ra 25, .inl (kI, 8, .inl q_notedAddress)), (ra 26, .inl (kZ, 64, .inl q_fitting'))]) A) args0 s 0 0 A) (F0 m 41 ls []) := by
    intro n
    induction n with
    | zero => intro y41_0 g41_9 g41_15 v41_loc3 v41_loc4 v41_loc5 H locs ls hm41; exact absurd hm41 (Nat.not_lt_zero _)
    | succ n ih41 =>
      intro y41_0 g41_9 g41_15 v41_loc3 v41_loc4 v41_loc5 H locs ls hm41 hI41_0 hI41_9 h41_3 h41_4 h41_5 h41_6 h41_7 htp_41 hfp_41 hirl_41 hP hD hS hl
      have hJ89 : ∀ (v89_loc4 : Int32) (v89_stk0 : Int32) (H : Heap) (locs : List Loc) (ls : Array Slot), iv (-1) 63 v89_loc4 → iv 0 63 v41_loc5 → iv 0 1 v89_stk0 → (y41_0 1 = x0 1) → (y41_0 10 = x0 10) → (y41_0 14 = x0 14) → va_P (dC, dI) vwCl [(m0, .inr (11, oX11 ra y41_0)), (ra 2, .inl (kI, 8, .inl q_told)), (ra 3, .inl (kI, 24, .inl q_kind)), (ra 4, .inl (kI, 24, .inl q_salt)), (ra 6, .inl (kI, 24, .inl q_mute)), (ra 7, .inl (kI, 24, .inl q_late)), (ra 8, .inl (kI, 40, .inl q_from)), (ra 9, .inl (kI, 40, .inl q_to)), (ra 10, .inl (kI, 6, .inl q_goal)), (ra 11, .inl (kI, 1019, .inl g41_9)), (ra 14, .inl (kI, 12, .inl q_reach)), (ra 22, .inl (kI, 8, .inl q_notedPort)), (ra 23, .inl (kI, 8, .inl q_notedGoal)), (ra 24, .inl (kI, 8, .inl q_notedHop)), (ra 25, .inl (kI, 8, .inl q_notedAddress)), (ra 26, .inl (kZ, 64, .inl g41_15))] H → va_D A [(m0, .inr (11, oX11 ra y41_0)), (ra 2, .inl (kI, 8, .inl q_told)), (ra 3, .inl (kI, 24, .inl q_kind)), (ra 4, .inl (kI, 24, .inl q_salt)), (ra 6, .inl (kI, 24, .inl q_mute)), (ra 7, .inl (kI, 24, .inl q_late)), (ra 8, .inl (kI, 40, .inl q_from)), (ra 9, .inl (kI, 40, .inl q_to)), (ra 10, .inl (kI, 6, .inl q_goal)), (ra 11, .inl (kI, 1019, .inl g41_9)), (ra 14, .inl (kI, 12, .inl q_reach)), (ra 22, .inl (kI, 8, .inl q_notedPort)), (ra 23, .inl (kI, 8, .inl q_notedGoal)), (ra 24, .inl (kI, 8, .inl q_notedHop)), (ra 25, .inl (kI, 8, .inl q_notedAddress)), (ra 26, .inl (kZ, 64, .inl g41_15))] → va_S A s.heap H locs → lv_has ls 6 [(0, .ref m0), (1, .int p0), (2, .int p1), (3, .int v41_loc3), (4, .int v89_loc4), (5, .int v41_loc5)] → W p l e (headSpec wsX11_fits rm_s11_fits).room s m args0 below meth c H locs (0) (0) (MQ below (va_Qi (fun (r : Int32) (_ : Unit) => True) (fun _ t => ∃ (x0' : Nat → Int32) (q_now' : Nat → Int32) (q_fitting' : Nat → Int32), fI lX11 hX11 x0' ∧ iv (-1) (-1) (x0' 11) ∧ fI lNow hNow q_now' ∧ (x0' 1 = x0 1) ∧ (x0' 10 = x0 10) ∧ (x0' 14 = x0 14) ∧ va_P (dC, dI) vwCl [(m0, .inr (11, oX11 ra x0')), (ra 2, .inl (kI, 8, .inl q_told)), (ra 3, .inl (kI, 24, .inl q_kind)), (ra 4, .inl (kI, 24, .inl q_salt)), (ra 6, .inl (kI, 24, .inl q_mute)), (ra 7, .inl (kI, 24, .inl q_late)), (ra 8, .inl (kI, 40, .inl q_from)), (ra 9, .inl (kI, 40, .inl q_to)), (ra 10, .inl (kI, 6, .inl q_goal)), (ra 11, .inl (kI, 1019, .inl q_now')), (ra 14, .inl (kI, 12, .inl q_reach)), (ra 22, .inl (kI, 8, .inl q_notedPort)), (ra 23, .inl (kI, 8, .inl q_notedGoal)), (ra 24, .inl (kI, 8, .inl q_notedHop)), (ra 25, .inl (kI, 8, .inl q_notedAddress)), (ra 26, .inl (kZ, 64, .inl q_fitting'))] t.heap ∧ va_D A [(m0, .inr (11, oX11 ra x0')), (ra 2, .inl (kI, 8, .inl q_told)), (ra 3, .inl (kI, 24, .inl q_kind)), (ra 4, .inl (kI, 24, .inl q_salt)), (ra 6, .inl (kI, 24, .inl q_mute)), (ra 7, .inl (kI, 24, .inl q_late)), (ra 8, .inl (kI, 40, .inl q_from)), (ra 9, .inl (kI, 40, .inl q_to)), (ra 10, .inl (kI, 6, .inl q_goal)), (ra 11, .inl (kI, 1019, .inl q_now')), (ra 14, .inl (kI, 12, .inl q_reach)), (ra 22, .inl (kI, 8, .inl q_notedPort)), (ra 23, .inl (kI, 8, .inl q_notedGoal)), (ra 24, .inl (kI, 8, .inl q_notedHop)), (ra 25, .inl (kI, 8, .inl q_notedAddress)), (ra 26, .inl (kZ, 64, .inl q_fitting'))]) A) args0 s 0 0 A) (F0 m 89 ls [.int v89_stk0, .int v41_loc3]) := by
        intro v89_loc4 v89_stk0 H locs ls h89_1 h89_2 h89_3 htp_89 hfp_89 hirl_89 hP hD hS hl
        refine lv_iadd hx hb dX11_fits_89 ?_
        refine lv_topi (fun z10 _ => ?_)
        refine lv_istore_n (lv' := [(3, .int z10), (0, .ref m0), (1, .int p0), (2, .int p1), (4, .int v89_loc4), (5, .int v41_loc5)]) hx hb dX11_fits_90 rfl hl (Nat.le_of_ble_eq_true rfl) rfl (fun ls hl => ?_)
        refine lv_iinc (v := v41_loc5 + Int32.ofInt 1) (lv' := [(5, .int (v41_loc5 + Int32.ofInt 1)), (3, .int z10), (0, .ref m0), (1, .int p0), (2, .int p1), (4, .int v89_loc4)]) hx hb dX11_fits_91 hl (k := 5) rfl (rfl) (Nat.le_of_ble_eq_true rfl) rfl (fun ls hl => ?_)
        have b11 : iv 1 64 (v41_loc5 + Int32.ofInt 1) := iv_add h89_2 ivo_1 (by decide) (by decide) (by decide) (by decide)
        refine lv_goto (tgt := 41) hx hb dX11_fits_94 rfl ?_
        exact ih41 y41_0 g41_9 g41_15 z10 v89_loc4 (v41_loc5 + Int32.ofInt 1) _ _ _ (ms_up (c := 1) (d := 0) h89_2 hm41 (by decide) (iv_inc 1 h89_2 (by decide) (by decide) (by decide) (by decide)) (by decide) rfl) (hI41_0) (hI41_9) (h41_3) (h41_4) (h89_1) ((iv_w b11 (by decide) (by decide))) (h41_7) ((show y41_0 1 = x0 1 from htp_41)) ((show y41_0 10 = x0 10 from hfp_41)) ((show y41_0 14 = x0 14 from hirl_41)) (hP) (hD) hS (lv_sub hl [2, 3, 4, 1, 5, 0] rfl)
      have hJ71 : ∀ (v71_stk0 : Int32) (H : Heap) (locs : List Loc) (ls : Array Slot), iv 0 63 v41_loc5 → iv (-1) 63 v71_stk0 → (y41_0 1 = x0 1) → (y41_0 10 = x0 10) → (y41_0 14 = x0 14) → va_P (dC, dI) vwCl [(m0, .inr (11, oX11 ra y41_0)), (ra 2, .inl (kI, 8, .inl q_told)), (ra 3, .inl (kI, 24, .inl q_kind)), (ra 4, .inl (kI, 24, .inl q_salt)), (ra 6, .inl (kI, 24, .inl q_mute)), (ra 7, .inl (kI, 24, .inl q_late)), (ra 8, .inl (kI, 40, .inl q_from)), (ra 9, .inl (kI, 40, .inl q_to)), (ra 10, .inl (kI, 6, .inl q_goal)), (ra 11, .inl (kI, 1019, .inl g41_9)), (ra 14, .inl (kI, 12, .inl q_reach)), (ra 22, .inl (kI, 8, .inl q_notedPort)), (ra 23, .inl (kI, 8, .inl q_notedGoal)), (ra 24, .inl (kI, 8, .inl q_notedHop)), (ra 25, .inl (kI, 8, .inl q_notedAddress)), (ra 26, .inl (kZ, 64, .inl g41_15))] H → va_D A [(m0, .inr (11, oX11 ra y41_0)), (ra 2, .inl (kI, 8, .inl q_told)), (ra 3, .inl (kI, 24, .inl q_kind)), (ra 4, .inl (kI, 24, .inl q_salt)), (ra 6, .inl (kI, 24, .inl q_mute)), (ra 7, .inl (kI, 24, .inl q_late)), (ra 8, .inl (kI, 40, .inl q_from)), (ra 9, .inl (kI, 40, .inl q_to)), (ra 10, .inl (kI, 6, .inl q_goal)), (ra 11, .inl (kI, 1019, .inl g41_9)), (ra 14, .inl (kI, 12, .inl q_reach)), (ra 22, .inl (kI, 8, .inl q_notedPort)), (ra 23, .inl (kI, 8, .inl q_notedGoal)), (ra 24, .inl (kI, 8, .inl q_notedHop)), (ra 25, .inl (kI, 8, .inl q_notedAddress)), (ra 26, .inl (kZ, 64, .inl g41_15))] → va_S A s.heap H locs → lv_has ls 6 [(0, .ref m0), (1, .int p0), (2, .int p1), (3, .int v41_loc3), (4, .int v41_loc4), (5, .int v41_loc5)] → W p l e (headSpec wsX11_fits rm_s11_fits).room s m args0 below meth c H locs (0) (0) (MQ below (va_Qi (fun (r : Int32) (_ : Unit) => True) (fun _ t => ∃ (x0' : Nat → Int32) (q_now' : Nat → Int32) (q_fitting' : Nat → Int32), fI lX11 hX11 x0' ∧ iv (-1) (-1) (x0' 11) ∧ fI lNow hNow q_now' ∧ (x0' 1 = x0 1) ∧ (x0' 10 = x0 10) ∧ (x0' 14 = x0 14) ∧ va_P (dC, dI) vwCl [(m0, .inr (11, oX11 ra x0')), (ra 2, .inl (kI, 8, .inl q_told)), (ra 3, .inl (kI, 24, .inl q_kind)), (ra 4, .inl (kI, 24, .inl q_salt)), (ra 6, .inl (kI, 24, .inl q_mute)), (ra 7, .inl (kI, 24, .inl q_late)), (ra 8, .inl (kI, 40, .inl q_from)), (ra 9, .inl (kI, 40, .inl q_to)), (ra 10, .inl (kI, 6, .inl q_goal)), (ra 11, .inl (kI, 1019, .inl q_now')), (ra 14, .inl (kI, 12, .inl q_reach)), (ra 22, .inl (kI, 8, .inl q_notedPort)), (ra 23, .inl (kI, 8, .inl q_notedGoal)), (ra 24, .inl (kI, 8, .inl q_notedHop)), (ra 25, .inl (kI, 8, .inl q_notedAddress)), (ra 26, .inl (kZ, 64, .inl q_fitting'))] t.heap ∧ va_D A [(m0, .inr (11, oX11 ra x0')), (ra 2, .inl (kI, 8, .inl q_told)), (ra 3, .inl (kI, 24, .inl q_kind)), (ra 4, .inl (kI, 24, .inl q_salt)), (ra 6, .inl (kI, 24, .inl q_mute)), (ra 7, .inl (kI, 24, .inl q_late)), (ra 8, .inl (kI, 40, .inl q_from)), (ra 9, .inl (kI, 40, .inl q_to)), (ra 10, .inl (kI, 6, .inl q_goal)), (ra 11, .inl (kI, 1019, .inl q_now')), (ra 14, .inl (kI, 12, .inl q_reach)), (ra 22, .inl (kI, 8, .inl q_notedPort)), (ra 23, .inl (kI, 8, .inl q_notedGoal)), (ra 24, .inl (kI, 8, .inl q_notedHop)), (ra 25, .inl (kI, 8, .inl q_notedAddress)), (ra 26, .inl (kZ, 64, .inl q_fitting'))]) A) args0 s 0 0 A) (F0 m 71 ls [.int v71_stk0]) := by
        intro v71_stk0 H locs ls h71_1 h71_2 htp_71 hfp_71 hirl_71 hP hD hS hl
        refine lv_istore (lv' := [(4, .int v71_stk0), (0, .ref m0), (1, .int p0), (2, .int p1), (3, .int v41_loc3), (5, .int v41_loc5)]) hx hb dX11_fits_71 hl (Nat.le_of_ble_eq_true rfl) rfl (fun ls hl => ?_)
        refine lv_iload_n hx hb dX11_fits_73 rfl (lv_at hl 4 rfl) ?_
        refine lv_aload_n hx hb dX11_fits_74 rfl (lv_at hl 1 rfl) ?_
        refine va_get (D := (dC, dI)) (ci := 11) (v := .ref (ra 26)) (C := RX11) (T := TX11) (N := 61) hx hb hts hin11 hown hK hP 0 rfl rfl 48 (Nat.le_of_ble_eq_true rfl) hw_0 (fun _ h9 => h9) rfl dX11_fits_75 ?_
        refine lv_iload hx hb dX11_fits_78 (lv_at hl 5 rfl) ?_
        refine va_zald hx hb hK hP 15 3 rfl rfl (iv_in h71_1 (by decide) (by decide)) dX11_fits_80 ?_
        refine lv_topi (fun z12 _ => ?_)
        refine lv_if_eq (tgt := 88) hx hb dX11_fits_81 rfl (fun c13 => ?_) (fun c13 => ?_)
        · have b14 : iv 0 0 z12 := iv_eqL c13 ivk_0
          refine lv_iconst (v := 0) hx hb dX11_fits_88 ic_0 ?_
          exact hJ89 v71_stk0 0 _ _ _ (h71_2) (h71_1) ((iv_w ivk_0 (by decide) (by decide))) ((show y41_0 1 = x0 1 from htp_41)) ((show y41_0 10 = x0 10 from hfp_41)) ((show y41_0 14 = x0 14 from hirl_41)) (hP) (hD) hS (lv_sub hl [1, 2, 3, 4, 0, 5] rfl)
        · refine lv_iconst (v := 1) hx hb dX11_fits_84 ic_1 ?_
          refine lv_goto (tgt := 89) hx hb dX11_fits_85 rfl ?_
          exact hJ89 v71_stk0 1 _ _ _ (h71_2) (h71_1) ((iv_w ivk_1 (by decide) (by decide))) ((show y41_0 1 = x0 1 from htp_41)) ((show y41_0 10 = x0 10 from hfp_41)) ((show y41_0 14 = x0 14 from hirl_41)) (hP) (hD) hS (lv_sub hl [1, 2, 3, 4, 0, 5] rfl)
      have hJ69 : ∀ (H : Heap) (locs : List Loc) (ls : Array Slot), iv 0 63 v41_loc5 → (y41_0 1 = x0 1) → (y41_0 10 = x0 10) → (y41_0 14 = x0 14) → va_P (dC, dI) vwCl [(m0, .inr (11, oX11 ra y41_0)), (ra 2, .inl (kI, 8, .inl q_told)), (ra 3, .inl (kI, 24, .inl q_kind)), (ra 4, .inl (kI, 24, .inl q_salt)), (ra 6, .inl (kI, 24, .inl q_mute)), (ra 7, .inl (kI, 24, .inl q_late)), (ra 8, .inl (kI, 40, .inl q_from)), (ra 9, .inl (kI, 40, .inl q_to)), (ra 10, .inl (kI, 6, .inl q_goal)), (ra 11, .inl (kI, 1019, .inl g41_9)), (ra 14, .inl (kI, 12, .inl q_reach)), (ra 22, .inl (kI, 8, .inl q_notedPort)), (ra 23, .inl (kI, 8, .inl q_notedGoal)), (ra 24, .inl (kI, 8, .inl q_notedHop)), (ra 25, .inl (kI, 8, .inl q_notedAddress)), (ra 26, .inl (kZ, 64, .inl g41_15))] H → va_D A [(m0, .inr (11, oX11 ra y41_0)), (ra 2, .inl (kI, 8, .inl q_told)), (ra 3, .inl (kI, 24, .inl q_kind)), (ra 4, .inl (kI, 24, .inl q_salt)), (ra 6, .inl (kI, 24, .inl q_mute)), (ra 7, .inl (kI, 24, .inl q_late)), (ra 8, .inl (kI, 40, .inl q_from)), (ra 9, .inl (kI, 40, .inl q_to)), (ra 10, .inl (kI, 6, .inl q_goal)), (ra 11, .inl (kI, 1019, .inl g41_9)), (ra 14, .inl (kI, 12, .inl q_reach)), (ra 22, .inl (kI, 8, .inl q_notedPort)), (ra 23, .inl (kI, 8, .inl q_notedGoal)), (ra 24, .inl (kI, 8, .inl q_notedHop)), (ra 25, .inl (kI, 8, .inl q_notedAddress)), (ra 26, .inl (kZ, 64, .inl g41_15))] → va_S A s.heap H locs → lv_has ls 6 [(0, .ref m0), (1, .int p0), (2, .int p1), (3, .int v41_loc3), (4, .int v41_loc4), (5, .int v41_loc5)] → W p l e (headSpec wsX11_fits rm_s11_fits).room s m args0 below meth c H locs (0) (0) (MQ below (va_Qi (fun (r : Int32) (_ : Unit) => True) (fun _ t => ∃ (x0' : Nat → Int32) (q_now' : Nat → Int32) (q_fitting' : Nat → Int32), fI lX11 hX11 x0' ∧ iv (-1) (-1) (x0' 11) ∧ fI lNow hNow q_now' ∧ (x0' 1 = x0 1) ∧ (x0' 10 = x0 10) ∧ (x0' 14 = x0 14) ∧ va_P (dC, dI) vwCl [(m0, .inr (11, oX11 ra x0')), (ra 2, .inl (kI, 8, .inl q_told)), (ra 3, .inl (kI, 24, .inl q_kind)), (ra 4, .inl (kI, 24, .inl q_salt)), (ra 6, .inl (kI, 24, .inl q_mute)), (ra 7, .inl (kI, 24, .inl q_late)), (ra 8, .inl (kI, 40, .inl q_from)), (ra 9, .inl (kI, 40, .inl q_to)), (ra 10, .inl (kI, 6, .inl q_goal)), (ra 11, .inl (kI, 1019, .inl q_now')), (ra 14, .inl (kI, 12, .inl q_reach)), (ra 22, .inl (kI, 8, .inl q_notedPort)), (ra 23, .inl (kI, 8, .inl q_notedGoal)), (ra 24, .inl (kI, 8, .inl q_notedHop)), (ra 25, .inl (kI, 8, .inl q_notedAddress)), (ra 26, .inl (kZ, 64, .inl q_fitting'))] t.heap ∧ va_D A [(m0, .inr (11, oX11 ra x0')), (ra 2, .inl (kI, 8, .inl q_told)), (ra 3, .inl (kI, 24, .inl q_kind)), (ra 4, .inl (kI, 24, .inl q_salt)), (ra 6, .inl (kI, 24, .inl q_mute)), (ra 7, .inl (kI, 24, .inl q_late)), (ra 8, .inl (kI, 40, .inl q_from)), (ra 9, .inl (kI, 40, .inl q_to)), (ra 10, .inl (kI, 6, .inl q_goal)), (ra 11, .inl (kI, 1019, .inl q_now')), (ra 14, .inl (kI, 12, .inl q_reach)), (ra 22, .inl (kI, 8, .inl q_notedPort)), (ra 23, .inl (kI, 8, .inl q_notedGoal)), (ra 24, .inl (kI, 8, .inl q_notedHop)), (ra 25, .inl (kI, 8, .inl q_notedAddress)), (ra 26, .inl (kZ, 64, .inl q_fitting'))]) A) args0 s 0 0 A) (F0 m 69 ls []) := by
        intro H locs ls h69_1 htp_69 hfp_69 hirl_69 hP hD hS hl
        refine lv_iload hx hb dX11_fits_69 (lv_at hl 4 rfl) ?_
        exact hJ71 v41_loc4 _ _ _ (h69_1) (h41_5) ((show y41_0 1 = x0 1 from htp_41)) ((show y41_0 10 = x0 10 from hfp_41)) ((show y41_0 14 = x0 14 from hirl_41)) (hP) (hD) hS (lv_sub hl [0, 1, 2, 3, 4, 5] rfl)
      refine lv_iload hx hb dX11_fits_41 (lv_at hl 5 rfl) ?_
      refine lv_bipush (v := 64) hx hb dX11_fits_43 bp_64 ?_
      refine lv_icmp_ge (tgt := 97) hx hb dX11_fits_45 rfl (fun c15 => ?_) (fun c15 => ?_)
      · have b16 : iv 64 64 v41_loc5 := iv_leR c15 ivk_64 h41_6 (by decide) (by decide)
        refine lv_iload_n hx hb dX11_fits_97 rfl (lv_at hl 2 rfl) ?_
        refine lv_if_ne (tgt := 105) hx hb dX11_fits_98 rfl (fun c17 => ?_) (fun c17 => ?_)
        · have b18 : iv 1 1 p1 := iv_neLo c17 h41_4 ivk_0 (by decide) (by decide)
          refine lv_iload hx hb dX11_fits_105 (lv_at hl 4 rfl) ?_
          have hP9 := hP
          have hD9 := hD
          exact W.iret (v := v41_loc4) hx hb hr (fun t ht hW => ⟨⟨v41_loc4, (), rfl, trivial, y41_0, g41_9, g41_15, hI41_0, h41_7, hI41_9, (show y41_0 1 = x0 1 from htp_41), (show y41_0 10 = x0 10 from hfp_41), (show y41_0 14 = x0 14 from hirl_41), by rw [ht]; exact hP9, hD9⟩, hS.F ht⟩) hS.2.2 dX11_fits_107
        · have b19 : iv 0 0 p1 := iv_eqL c17 ivk_0
          refine lv_iload_n hx hb dX11_fits_101 rfl (lv_at hl 3 rfl) ?_
          refine lv_goto (tgt := 107) hx hb dX11_fits_102 rfl ?_
          have hP9 := hP
          have hD9 := hD
          exact W.iret (v := v41_loc3) hx hb hr (fun t ht hW => ⟨⟨v41_loc3, (), rfl, trivial, y41_0, g41_9, g41_15, hI41_0, h41_7, hI41_9, (show y41_0 1 = x0 1 from htp_41), (show y41_0 10 = x0 10 from hfp_41), (show y41_0 14 = x0 14 from hirl_41), by rw [ht]; exact hP9, hD9⟩, hS.F ht⟩) hS.2.2 dX11_fits_107
      · have b20 : iv 0 63 v41_loc5 := iv_ltL (Int32.not_le.mp c15) h41_6 ivk_64 (by decide) (by decide)
        refine lv_aload_n hx hb dX11_fits_48 rfl (lv_at hl 0 rfl) ?_
        refine va_get (D := (dC, dI)) (ci := 11) (v := .ref (ra 26)) (C := RX11) (T := TX11) (N := 61) hx hb hts hin11 hown hK hP 0 rfl rfl 48 (Nat.le_of_ble_eq_true rfl) hw_0 (fun _ h9 => h9) rfl dX11_fits_49 ?_
        refine lv_iload hx hb dX11_fits_52 (lv_at hl 5 rfl) ?_
        refine va_zald hx hb hK hP 15 3 rfl rfl (iv_in b20 (by decide) (by decide)) dX11_fits_54 ?_
        refine lv_topi (fun z21 _ => ?_)
        refine lv_if_eq (tgt := 69) hx hb dX11_fits_55 rfl (fun c22 => ?_) (fun c22 => ?_)
        · have b23 : iv 0 0 z21 := iv_eqL c22 ivk_0
          exact hJ69 _ _ _ (b20) ((show y41_0 1 = x0 1 from htp_41)) ((show y41_0 10 = x0 10 from hfp_41)) ((show y41_0 14 = x0 14 from hirl_41)) (hP) (hD) hS (lv_sub hl [0, 1, 2, 3, 4, 5] rfl)
        · refine lv_iload hx hb dX11_fits_58 (lv_at hl 4 rfl) ?_
          refine lv_iconst (v := (-1)) hx hb dX11_fits_60 ic_m1 ?_
          refine lv_icmp_ne (tgt := 69) hx hb dX11_fits_61 rfl (fun c24 => ?_) (fun c24 => ?_)
          · have b25 : iv 0 63 v41_loc4 := iv_neLo c24 h41_5 ivk_m1 (by decide) (by decide)
            exact hJ69 _ _ _ (b20) ((show y41_0 1 = x0 1 from htp_41)) ((show y41_0 10 = x0 10 from hfp_41)) ((show y41_0 14 = x0 14 from hirl_41)) (hP) (hD) hS (lv_sub hl [0, 1, 2, 3, 4, 5] rfl)
          · have b26 : iv (-1) (-1) v41_loc4 := iv_eqL c24 ivk_m1
            refine lv_iload hx hb dX11_fits_64 (lv_at hl 5 rfl) ?_
            refine lv_goto (tgt := 71) hx hb dX11_fits_66 rfl ?_
            exact hJ71 v41_loc5 _ _ _ (b20) ((iv_w b20 (by decide) (by decide))) ((show y41_0 1 = x0 1 from htp_41)) ((show y41_0 10 = x0 10 from hfp_41)) ((show y41_0 14 = x0 14 from hirl_41)) (hP) (hD) hS (lv_sub hl [0, 1, 2, 3, 4, 5] rfl)
  refine lv_aload_n hx hb dX11_fits_0 rfl (lv_at hl 0 rfl) ?_
  refine lv_iconst (v := 0) hx hb dX11_fits_1 ic_0 ?_
  refine va_put (D := (dC, dI)) (ci := 11) (v := .int 0) (ty := .int) (C := RX11) (T := TX11) (N := 61) hx hb hts hin11 tyX11 tyX11_ok nmX11 hown hK hP hD hS 0 rfl rfl 2 (by decide) hw_1 (fun _ h9 => h9) rfl (by decide +kernel) rfl rfl (Nat.le_of_ble_eq_true rfl) dX11_fits_2 (fun H locs hPa hDa hS => ?_)
  clear hP hD
  have hP : va_P (dC, dI) vwCl [(m0, .inr (11, oX11 ra (upd x0 0 0))), (ra 2, .inl (kI, 8, .inl q_told)), (ra 3, .inl (kI, 24, .inl q_kind)), (ra 4, .inl (kI, 24, .inl q_salt)), (ra 6, .inl (kI, 24, .inl q_mute)), (ra 7, .inl (kI, 24, .inl q_late)), (ra 8, .inl (kI, 40, .inl q_from)), (ra 9, .inl (kI, 40, .inl q_to)), (ra 10, .inl (kI, 6, .inl q_goal)), (ra 11, .inl (kI, 1019, .inl q_now)), (ra 14, .inl (kI, 12, .inl q_reach)), (ra 22, .inl (kI, 8, .inl q_notedPort)), (ra 23, .inl (kI, 8, .inl q_notedGoal)), (ra 24, .inl (kI, 8, .inl q_notedHop)), (ra 25, .inl (kI, 8, .inl q_notedAddress)), (ra 26, .inl (kZ, 64, .inl q_fitting))] H := hPa
  have hD : va_D A [(m0, .inr (11, oX11 ra (upd x0 0 0))), (ra 2, .inl (kI, 8, .inl q_told)), (ra 3, .inl (kI, 24, .inl q_kind)), (ra 4, .inl (kI, 24, .inl q_salt)), (ra 6, .inl (kI, 24, .inl q_mute)), (ra 7, .inl (kI, 24, .inl q_late)), (ra 8, .inl (kI, 40, .inl q_from)), (ra 9, .inl (kI, 40, .inl q_to)), (ra 10, .inl (kI, 6, .inl q_goal)), (ra 11, .inl (kI, 1019, .inl q_now)), (ra 14, .inl (kI, 12, .inl q_reach)), (ra 22, .inl (kI, 8, .inl q_notedPort)), (ra 23, .inl (kI, 8, .inl q_notedGoal)), (ra 24, .inl (kI, 8, .inl q_notedHop)), (ra 25, .inl (kI, 8, .inl q_notedAddress)), (ra 26, .inl (kZ, 64, .inl q_fitting))] := hDa
  clear hPa hDa
  refine lv_aload_n hx hb dX11_fits_5 rfl (lv_at hl 0 rfl) ?_
  refine lv_iload_n hx hb dX11_fits_6 rfl (lv_at hl 1 rfl) ?_
  obtain ⟨hPc, hDc, hFc, hJn⟩ := cl_a (wc := [(m0, .inr (11, oX11 ra (upd x0 0 0))), (ra 2, .inl (kI, 8, .inl q_told))]) (wr := [(ra 3, .inl (kI, 24, .inl q_kind)), (ra 4, .inl (kI, 24, .inl q_salt)), (ra 6, .inl (kI, 24, .inl q_mute)), (ra 7, .inl (kI, 24, .inl q_late)), (ra 8, .inl (kI, 40, .inl q_from)), (ra 9, .inl (kI, 40, .inl q_to)), (ra 10, .inl (kI, 6, .inl q_goal)), (ra 11, .inl (kI, 1019, .inl q_now)), (ra 14, .inl (kI, 12, .inl q_reach)), (ra 22, .inl (kI, 8, .inl q_notedPort)), (ra 23, .inl (kI, 8, .inl q_notedGoal)), (ra 24, .inl (kI, 8, .inl q_notedHop)), (ra 25, .inl (kI, 8, .inl q_notedAddress)), (ra 26, .inl (kZ, 64, .inl q_fitting))]) hP hD hS hA [0, 1] [2, 3, 4, 5, 6, 7, 8, 9, 10, 11, 12, 13, 14, 15] rfl rfl (by decide +kernel)
  refine va_calli (va_runV (As := [.int p0]) (rest := []) ⟨hx, hb, hml, hown, hts⟩ (s11_isRouter l dC dI kB kI kJ kZ kC kS H.size m0 ra (upd x0 0 0) q_told p0 ((fI_u hX (k := 0) ((iv_w ivk_0 (by decide) (by decide))))) (hq_told)) (cwV 1 hts gX11_fits_X11_isRouter rfl rfl rfl (by decide +kernel) ⟨Nat.le_of_ble_eq_true rfl, Nat.le_of_ble_eq_true rfl⟩) ⟨fun a U g mk q => by obtain ⟨q0, q1, qP, qE, qD⟩ := q; exact ⟨q0, q1, qP, kE_call qE, qD⟩, va_recv hK hP (ci := 11) (q0 := 0) rfl rfl, fun U hU hW => ⟨rfl, by rw [hU], by rw [hU]; exact hPc, kE_warm hW hE, hDc.weaken (fun _ _ _ _ => trivial)⟩⟩ rfl rfl hl.1 rfl (lv_room (Nat.le_of_ble_eq_true rfl)) dX11_fits_7 ⟨Nat.le_of_ble_eq_true rfl, Nat.le_of_ble_eq_true rfl⟩) hS (fun q _ h => hFc q h) hFc (fun r27 u t H locs ht hvm w28 hB hz1 hk1 hS => ?_)
  obtain ⟨hP1, hD1⟩ := hB
  try dsimp only at w28
  obtain ⟨hPa, hDa⟩ := hJn (w1 := [(m0, .inr (11, oX11 ra (upd x0 0 0))), (ra 2, .inl (kI, 8, .inl q_told))]) hk1 ht hP1 hD1
  clear hP hD hPc hDc hFc hJn hP1 hD1 hk1
  have hP : va_P (dC, dI) vwCl [(ra 3, .inl (kI, 24, .inl q_kind)), (ra 4, .inl (kI, 24, .inl q_salt)), (ra 6, .inl (kI, 24, .inl q_mute)), (ra 7, .inl (kI, 24, .inl q_late)), (ra 8, .inl (kI, 40, .inl q_from)), (ra 9, .inl (kI, 40, .inl q_to)), (ra 10, .inl (kI, 6, .inl q_goal)), (ra 11, .inl (kI, 1019, .inl q_now)), (ra 14, .inl (kI, 12, .inl q_reach)), (ra 22, .inl (kI, 8, .inl q_notedPort)), (ra 23, .inl (kI, 8, .inl q_notedGoal)), (ra 24, .inl (kI, 8, .inl q_notedHop)), (ra 25, .inl (kI, 8, .inl q_notedAddress)), (ra 26, .inl (kZ, 64, .inl q_fitting)), (m0, .inr (11, oX11 ra (upd x0 0 0))), (ra 2, .inl (kI, 8, .inl q_told))] H := hPa
  have hD : va_D A [(ra 3, .inl (kI, 24, .inl q_kind)), (ra 4, .inl (kI, 24, .inl q_salt)), (ra 6, .inl (kI, 24, .inl q_mute)), (ra 7, .inl (kI, 24, .inl q_late)), (ra 8, .inl (kI, 40, .inl q_from)), (ra 9, .inl (kI, 40, .inl q_to)), (ra 10, .inl (kI, 6, .inl q_goal)), (ra 11, .inl (kI, 1019, .inl q_now)), (ra 14, .inl (kI, 12, .inl q_reach)), (ra 22, .inl (kI, 8, .inl q_notedPort)), (ra 23, .inl (kI, 8, .inl q_notedGoal)), (ra 24, .inl (kI, 8, .inl q_notedHop)), (ra 25, .inl (kI, 8, .inl q_notedAddress)), (ra 26, .inl (kZ, 64, .inl q_fitting)), (m0, .inr (11, oX11 ra (upd x0 0 0))), (ra 2, .inl (kI, 8, .inl q_told))] := hDa
  clear hPa hDa
  refine W.widen (k := 0) (n := 0) (Nat.le_of_ble_eq_true rfl) (Nat.le_of_ble_eq_true rfl) ?_
  refine lv_if_eq (tgt := 22) hx hb dX11_fits_10 rfl (fun c29 => ?_) (fun c29 => ?_)
  · have b30 : iv 0 0 r27 := iv_eqL c29 ivk_0
    have hPD9 := cl_s (wc := [(m0, .inr (11, oX11 ra (upd x0 0 0))), (ra 2, .inl (kI, 8, .inl q_told)), (ra 3, .inl (kI, 24, .inl q_kind)), (ra 4, .inl (kI, 24, .inl q_salt)), (ra 6, .inl (kI, 24, .inl q_mute)), (ra 7, .inl (kI, 24, .inl q_late)), (ra 8, .inl (kI, 40, .inl q_from)), (ra 9, .inl (kI, 40, .inl q_to)), (ra 10, .inl (kI, 6, .inl q_goal)), (ra 11, .inl (kI, 1019, .inl q_now)), (ra 14, .inl (kI, 12, .inl q_reach)), (ra 22, .inl (kI, 8, .inl q_notedPort)), (ra 23, .inl (kI, 8, .inl q_notedGoal)), (ra 24, .inl (kI, 8, .inl q_notedHop)), (ra 25, .inl (kI, 8, .inl q_notedAddress)), (ra 26, .inl (kZ, 64, .inl q_fitting))]) hP hD [14, 15, 0, 1, 2, 3, 4, 5, 6, 7, 8, 9, 10, 11, 12, 13] rfl (by decide +kernel)
    exact hJ22 (upd x0 0 0) _ _ _ ((fI_u hX (k := 0) ((iv_w ivk_0 (by decide) (by decide))))) (ivk_0) (hfl11) ((show x0 1 = x0 1 from rfl)) ((show x0 10 = x0 10 from rfl)) ((show x0 14 = x0 14 from rfl)) (hPD9.1) (hPD9.2) hS (lv_sub hl [0, 1, 2] rfl)
  · have b31 : iv 1 1 r27 := iv_neLo c29 w28.1 ivk_0 (by decide) (by decide)
    have b32 : iv 0 11 p0 := (w28.2).resolve_left (iv_ne b31 ivk_0 (by decide))
    refine lv_iload_n hx hb dX11_fits_13 rfl (lv_at hl 2 rfl) ?_
    refine lv_iconst (v := 0) hx hb dX11_fits_14 ic_0 ?_
    refine lv_iconst (v := 1) hx hb dX11_fits_15 ic_1 ?_
    obtain ⟨hPc, hDc, hFc, hJn⟩ := cl_a (wc := []) (wr := [(ra 3, .inl (kI, 24, .inl q_kind)), (ra 4, .inl (kI, 24, .inl q_salt)), (ra 6, .inl (kI, 24, .inl q_mute)), (ra 7, .inl (kI, 24, .inl q_late)), (ra 8, .inl (kI, 40, .inl q_from)), (ra 9, .inl (kI, 40, .inl q_to)), (ra 10, .inl (kI, 6, .inl q_goal)), (ra 11, .inl (kI, 1019, .inl q_now)), (ra 14, .inl (kI, 12, .inl q_reach)), (ra 22, .inl (kI, 8, .inl q_notedPort)), (ra 23, .inl (kI, 8, .inl q_notedGoal)), (ra 24, .inl (kI, 8, .inl q_notedHop)), (ra 25, .inl (kI, 8, .inl q_notedAddress)), (ra 26, .inl (kZ, 64, .inl q_fitting)), (m0, .inr (11, oX11 ra (upd x0 0 0))), (ra 2, .inl (kI, 8, .inl q_told))]) hP hD hS hA [] [0, 1, 2, 3, 4, 5, 6, 7, 8, 9, 10, 11, 12, 13, 14, 15] rfl rfl (by decide +kernel)
    refine va_calli (va_runS (As := [.int p1, .int 0, .int 1]) (rest := []) ⟨hx, hb, hml, hown, hts⟩ (s11_isIn l dC dI kB kI kJ kZ kC kS H.size p1 0 1) (va_cwS 3 hts gX11_fits_X11_isIn rfl rfl rfl (by decide +kernel) ⟨Nat.le_of_ble_eq_true rfl, Nat.le_of_ble_eq_true rfl⟩) ⟨fun a U g mk q => by obtain ⟨q0, q1, qP, qE, qD⟩ := q; exact ⟨q0, q1, qP, kE_call qE, qD⟩, fun U hU hW => ⟨rfl, by rw [hU], by rw [hU]; exact hPc, kE_warm hW hE, hDc.weaken (fun _ _ _ _ => trivial)⟩⟩ rfl rfl hl.1 rfl (lv_room (Nat.le_of_ble_eq_true rfl)) dX11_fits_16 ⟨Nat.le_of_ble_eq_true rfl, Nat.le_of_ble_eq_true rfl⟩) hS (fun q _ h => hFc q h) hFc (fun r33 u t H locs ht hvm w34 hB hz1 hk1 hS => ?_)
    obtain ⟨hP1, hD1⟩ := hB
    try dsimp only at w34
    obtain ⟨hPa, hDa⟩ := hJn (w1 := []) hk1 ht hP1 hD1
    clear hP hD hPc hDc hFc hJn hP1 hD1 hk1
    have hP : va_P (dC, dI) vwCl [(ra 3, .inl (kI, 24, .inl q_kind)), (ra 4, .inl (kI, 24, .inl q_salt)), (ra 6, .inl (kI, 24, .inl q_mute)), (ra 7, .inl (kI, 24, .inl q_late)), (ra 8, .inl (kI, 40, .inl q_from)), (ra 9, .inl (kI, 40, .inl q_to)), (ra 10, .inl (kI, 6, .inl q_goal)), (ra 11, .inl (kI, 1019, .inl q_now)), (ra 14, .inl (kI, 12, .inl q_reach)), (ra 22, .inl (kI, 8, .inl q_notedPort)), (ra 23, .inl (kI, 8, .inl q_notedGoal)), (ra 24, .inl (kI, 8, .inl q_notedHop)), (ra 25, .inl (kI, 8, .inl q_notedAddress)), (ra 26, .inl (kZ, 64, .inl q_fitting)), (m0, .inr (11, oX11 ra (upd x0 0 0))), (ra 2, .inl (kI, 8, .inl q_told))] H := hPa
    have hD : va_D A [(ra 3, .inl (kI, 24, .inl q_kind)), (ra 4, .inl (kI, 24, .inl q_salt)), (ra 6, .inl (kI, 24, .inl q_mute)), (ra 7, .inl (kI, 24, .inl q_late)), (ra 8, .inl (kI, 40, .inl q_from)), (ra 9, .inl (kI, 40, .inl q_to)), (ra 10, .inl (kI, 6, .inl q_goal)), (ra 11, .inl (kI, 1019, .inl q_now)), (ra 14, .inl (kI, 12, .inl q_reach)), (ra 22, .inl (kI, 8, .inl q_notedPort)), (ra 23, .inl (kI, 8, .inl q_notedGoal)), (ra 24, .inl (kI, 8, .inl q_notedHop)), (ra 25, .inl (kI, 8, .inl q_notedAddress)), (ra 26, .inl (kZ, 64, .inl q_fitting)), (m0, .inr (11, oX11 ra (upd x0 0 0))), (ra 2, .inl (kI, 8, .inl q_told))] := hDa
    clear hPa hDa
    refine W.widen (k := 0) (n := 0) (Nat.le_of_ble_eq_true rfl) (Nat.le_of_ble_eq_true rfl) ?_
    refine lv_if_ne (tgt := 28) hx hb dX11_fits_19 rfl (fun c35 => ?_) (fun c35 => ?_)
    · have b36 : iv 1 1 r33 := iv_neLo c35 w34.1 ivk_0 (by decide) (by decide)
      have hr37 := (w34.2).resolve_left (iv_ne b36 ivk_0 (by decide))
      have b38 : iv 0 1 p1 := iv_cap (in_iv hr37 ivk_0 ivk_1) (iv_t p1) (by decide) (by decide)
      refine lv_aload_n hx hb dX11_fits_28 rfl (lv_at hl 0 rfl) ?_
      refine lv_iload_n hx hb dX11_fits_29 rfl (lv_at hl 1 rfl) ?_
      obtain ⟨hPc, hDc, hFc, hJn⟩ := cl_a (wc := [(m0, .inr (11, oX11 ra (upd x0 0 0))), (ra 2, .inl (kI, 8, .inl q_told)), (ra 3, .inl (kI, 24, .inl q_kind)), (ra 4, .inl (kI, 24, .inl q_salt)), (ra 6, .inl (kI, 24, .inl q_mute)), (ra 7, .inl (kI, 24, .inl q_late)), (ra 8, .inl (kI, 40, .inl q_from)), (ra 9, .inl (kI, 40, .inl q_to)), (ra 10, .inl (kI, 6, .inl q_goal)), (ra 11, .inl (kI, 1019, .inl q_now)), (ra 14, .inl (kI, 12, .inl q_reach)), (ra 22, .inl (kI, 8, .inl q_notedPort)), (ra 23, .inl (kI, 8, .inl q_notedGoal)), (ra 24, .inl (kI, 8, .inl q_notedHop)), (ra 25, .inl (kI, 8, .inl q_notedAddress)), (ra 26, .inl (kZ, 64, .inl q_fitting))]) (wr := []) hP hD hS hA [14, 15, 0, 1, 2, 3, 4, 5, 6, 7, 8, 9, 10, 11, 12, 13] [] rfl rfl (by decide +kernel)
      refine va_callv (va_runV (As := [.int p0]) (rest := []) ⟨hx, hb, hml, hown, hts⟩ (s11_tellFits l dC dI kB kI kJ kZ kC kS H.size m0 ra (upd x0 0 0) q_told q_kind q_salt q_mute q_late q_from q_to q_goal q_now q_reach q_notedPort q_notedGoal q_notedHop q_notedAddress q_fitting p0 ((fI_u hX (k := 0) ((iv_w ivk_0 (by decide) (by decide))))) (hq_told) (hq_salt) (hq_from) (hq_to) (hq_goal) (hq_now) (hq_notedPort) (hq_notedGoal) (b32) (hLT)) (cwV 1 hts gX11_fits_X11_tellFits rfl rfl rfl (by decide +kernel) ⟨Nat.le_of_ble_eq_true rfl, Nat.le_of_ble_eq_true rfl⟩) ⟨fun a U g mk q => by obtain ⟨q0, q1, qP, qE, qD⟩ := q; exact ⟨q0, q1, qP, kE_call qE, qD⟩, va_recv hK hP (ci := 11) (q0 := 14) rfl rfl, fun U hU hW => ⟨rfl, by rw [hU], by rw [hU]; exact hPc, kE_warm hW hE, hDc.weaken (fun _ _ _ _ => trivial)⟩⟩ rfl rfl hl.1 rfl (lv_room (Nat.le_of_ble_eq_true rfl)) dX11_fits_30 ⟨Nat.le_of_ble_eq_true rfl, Nat.le_of_ble_eq_true rfl⟩) hS (fun q _ h => hFc q h) hFc (fun u t H locs ht hvm w40 hB hz1 hk1 hS => ?_)
      obtain ⟨y41, f42, f43, hq44, hq45, hq46, hq47, hq48, hq49, hP1, hD1⟩ := hB
      try dsimp only at w40
      obtain ⟨hPa, hDa⟩ := hJn (w1 := [(m0, .inr (11, oX11 ra y41)), (ra 2, .inl (kI, 8, .inl q_told)), (ra 3, .inl (kI, 24, .inl q_kind)), (ra 4, .inl (kI, 24, .inl q_salt)), (ra 6, .inl (kI, 24, .inl q_mute)), (ra 7, .inl (kI, 24, .inl q_late)), (ra 8, .inl (kI, 40, .inl q_from)), (ra 9, .inl (kI, 40, .inl q_to)), (ra 10, .inl (kI, 6, .inl q_goal)), (ra 11, .inl (kI, 1019, .inl f42)), (ra 14, .inl (kI, 12, .inl q_reach)), (ra 22, .inl (kI, 8, .inl q_notedPort)), (ra 23, .inl (kI, 8, .inl q_notedGoal)), (ra 24, .inl (kI, 8, .inl q_notedHop)), (ra 25, .inl (kI, 8, .inl q_notedAddress)), (ra 26, .inl (kZ, 64, .inl f43))]) hk1 ht hP1 hD1
      clear hP hD hPc hDc hFc hJn hP1 hD1 hk1
      have hP : va_P (dC, dI) vwCl [(m0, .inr (11, oX11 ra y41)), (ra 2, .inl (kI, 8, .inl q_told)), (ra 3, .inl (kI, 24, .inl q_kind)), (ra 4, .inl (kI, 24, .inl q_salt)), (ra 6, .inl (kI, 24, .inl q_mute)), (ra 7, .inl (kI, 24, .inl q_late)), (ra 8, .inl (kI, 40, .inl q_from)), (ra 9, .inl (kI, 40, .inl q_to)), (ra 10, .inl (kI, 6, .inl q_goal)), (ra 11, .inl (kI, 1019, .inl f42)), (ra 14, .inl (kI, 12, .inl q_reach)), (ra 22, .inl (kI, 8, .inl q_notedPort)), (ra 23, .inl (kI, 8, .inl q_notedGoal)), (ra 24, .inl (kI, 8, .inl q_notedHop)), (ra 25, .inl (kI, 8, .inl q_notedAddress)), (ra 26, .inl (kZ, 64, .inl f43))] H := hPa
      have hD : va_D A [(m0, .inr (11, oX11 ra y41)), (ra 2, .inl (kI, 8, .inl q_told)), (ra 3, .inl (kI, 24, .inl q_kind)), (ra 4, .inl (kI, 24, .inl q_salt)), (ra 6, .inl (kI, 24, .inl q_mute)), (ra 7, .inl (kI, 24, .inl q_late)), (ra 8, .inl (kI, 40, .inl q_from)), (ra 9, .inl (kI, 40, .inl q_to)), (ra 10, .inl (kI, 6, .inl q_goal)), (ra 11, .inl (kI, 1019, .inl f42)), (ra 14, .inl (kI, 12, .inl q_reach)), (ra 22, .inl (kI, 8, .inl q_notedPort)), (ra 23, .inl (kI, 8, .inl q_notedGoal)), (ra 24, .inl (kI, 8, .inl q_notedHop)), (ra 25, .inl (kI, 8, .inl q_notedAddress)), (ra 26, .inl (kZ, 64, .inl f43))] := hDa
      clear hPa hDa
      refine W.widen (k := 0) (n := 0) (Nat.le_of_ble_eq_true rfl) (Nat.le_of_ble_eq_true rfl) ?_
      refine lv_iconst (v := 0) hx hb dX11_fits_33 ic_0 ?_
      refine lv_istore_n (lv' := [(3, .int 0), (0, .ref m0), (1, .int p0), (2, .int p1)]) hx hb dX11_fits_34 rfl hl (Nat.le_of_ble_eq_true rfl) rfl (fun ls hl => ?_)
      refine lv_iconst (v := (-1)) hx hb dX11_fits_35 ic_m1 ?_
      refine lv_istore (lv' := [(4, .int (-1)), (3, .int 0), (0, .ref m0), (1, .int p0), (2, .int p1)]) hx hb dX11_fits_36 hl (Nat.le_of_ble_eq_true rfl) rfl (fun ls hl => ?_)
      refine lv_iconst (v := 0) hx hb dX11_fits_38 ic_0 ?_
      refine lv_istore (lv' := [(5, .int 0), (4, .int (-1)), (3, .int 0), (0, .ref m0), (1, .int p0), (2, .int p1)]) hx hb dX11_fits_39 hl (Nat.le_of_ble_eq_true rfl) rfl (fun ls hl => ?_)
      exact hJ41 _ y41 f42 f43 0 (-1) 0 _ _ _ (Nat.lt_succ_self _) (hq44) (hq46) (b32) (b38) ((iv_w ivk_m1 (by decide) (by decide))) ((iv_w ivk_0 (by decide) (by decide))) (hq45) ((show y41 1 = x0 1 from hq47)) ((show y41 10 = x0 10 from hq48)) ((show y41 14 = x0 14 from hq49)) (hP) (hD) hS (lv_sub hl [3, 4, 5, 2, 1, 0] rfl)
    · have b50 : iv 0 0 r33 := iv_eqL c35 ivk_0
      have hPD9 := cl_s (wc := [(m0, .inr (11, oX11 ra (upd x0 0 0))), (ra 2, .inl (kI, 8, .inl q_told)), (ra 3, .inl (kI, 24, .inl q_kind)), (ra 4, .inl (kI, 24, .inl q_salt)), (ra 6, .inl (kI, 24, .inl q_mute)), (ra 7, .inl (kI, 24, .inl q_late)), (ra 8, .inl (kI, 40, .inl q_from)), (ra 9, .inl (kI, 40, .inl q_to)), (ra 10, .inl (kI, 6, .inl q_goal)), (ra 11, .inl (kI, 1019, .inl q_now)), (ra 14, .inl (kI, 12, .inl q_reach)), (ra 22, .inl (kI, 8, .inl q_notedPort)), (ra 23, .inl (kI, 8, .inl q_notedGoal)), (ra 24, .inl (kI, 8, .inl q_notedHop)), (ra 25, .inl (kI, 8, .inl q_notedAddress)), (ra 26, .inl (kZ, 64, .inl q_fitting))]) hP hD [14, 15, 0, 1, 2, 3, 4, 5, 6, 7, 8, 9, 10, 11, 12, 13] rfl (by decide +kernel)
      exact hJ22 (upd x0 0 0) _ _ _ ((fI_u hX (k := 0) ((iv_w ivk_0 (by decide) (by decide))))) (ivk_0) (hfl11) ((show x0 1 = x0 1 from rfl)) ((show x0 10 = x0 10 from rfl)) ((show x0 14 = x0 14 from rfl)) (hPD9.1) (hPD9.2) hS (lv_sub hl [0, 1, 2] rfl)
def rm_s11_look : Room := { frames := 6, cells := 0, slots := 0, locals := 149 }
set_option maxHeartbeats 4000000 in
set_option maxRecDepth 100000 in
theorem s11_look (l : Launch) (dC : Nat → ClassId) (dI : Nat → Nat → Nat) (kB kI kJ kZ kC kS : ClassId) (sz : Nat) (m0 : Nat) (ra : Nat → Nat) (x0 : Nat → Int32) (q_told : Nat → Int32) (q_kind : Nat → Int32) (q_salt : Nat → Int32) (q_mute : Nat → Int32) (q_late : Nat → Int32) (q_from : Nat → Int32) (q_to : Nat → Int32) (q_goal : Nat → Int32) (q_now : Nat → Int32) (q_reach : Nat → Int32) (q_notedPort : Nat → Int32) (q_notedGoal : Nat → Int32) (q_notedHop : Nat → Int32) (q_notedAddress : Nat → Int32) (q_fitting : Nat → Int32) (p0 : Int32) (p1 : Int32) (p2 : Int32) (hX : fI lX11 hX11 x0) (hq_told : fI lTold hTold q_told) (hq_salt : fI (fun _ => 0) (fun _ => 15) q_salt) (hq_from : fI (fun _ => 0) (fun _ => 11) q_from) (hq_to : fI (fun _ => 0) (fun _ => 11) q_to) (hq_goal : fI (fun _ => 0) (fun _ => 11) q_goal) (hq_now : fI lNow hNow q_now) (hq_notedPort : fI (fun _ => 0) (fun _ => 31) q_notedPort) (hq_notedGoal : fI (fun _ => 0) (fun _ => 2) q_notedGoal) (hLT : ∀ j : Nat, (j : Int) < (q_told 1).toInt → (q_from j).toInt < (q_to j).toInt) (hfl11 : iv (-1) (-1) (x0 11)) : Met l yX11_look wsX11_look rm_s11_look (va_Pc [.ref m0, .int p0, .int p1, .int p2] (fun U => U.heap.size = sz ∧ va_P (dC, dI) vwCl [(m0, .inr (11, oX11 ra x0)), (ra 2, .inl (kI, 8, .inl q_told)), (ra 3, .inl (kI, 24, .inl q_kind)), (ra 4, .inl (kI, 24, .inl q_salt)), (ra 6, .inl (kI, 24, .inl q_mute)), (ra 7, .inl (kI, 24, .inl q_late)), (ra 8, .inl (kI, 40, .inl q_from)), (ra 9, .inl (kI, 40, .inl q_to)), (ra 10, .inl (kI, 6, .inl q_goal)), (ra 11, .inl (kI, 1019, .inl q_now)), (ra 14, .inl (kI, 12, .inl q_reach)), (ra 22, .inl (kI, 8, .inl q_notedPort)), (ra 23, .inl (kI, 8, .inl q_notedGoal)), (ra 24, .inl (kI, 8, .inl q_notedHop)), (ra 25, .inl (kI, 8, .inl q_notedAddress)), (ra 26, .inl (kZ, 64, .inl q_fitting))] U.heap ∧ kE dC dI kB kI kJ kZ kC kS U ∧ va_D (fun _ => True) [(m0, .inr (11, oX11 ra x0)), (ra 2, .inl (kI, 8, .inl q_told)), (ra 3, .inl (kI, 24, .inl q_kind)), (ra 4, .inl (kI, 24, .inl q_salt)), (ra 6, .inl (kI, 24, .inl q_mute)), (ra 7, .inl (kI, 24, .inl q_late)), (ra 8, .inl (kI, 40, .inl q_from)), (ra 9, .inl (kI, 40, .inl q_to)), (ra 10, .inl (kI, 6, .inl q_goal)), (ra 11, .inl (kI, 1019, .inl q_now)), (ra 14, .inl (kI, 12, .inl q_reach)), (ra 22, .inl (kI, 8, .inl q_notedPort)), (ra 23, .inl (kI, 8, .inl q_notedGoal)), (ra 24, .inl (kI, 8, .inl q_notedHop)), (ra 25, .inl (kI, 8, .inl q_notedAddress)), (ra 26, .inl (kZ, 64, .inl q_fitting))])) (va_Qi (fun (r : Int32) (_ : Unit) => iv (-1) 2147483647 r) (fun _ t => ∃ (x0' : Nat → Int32) (q_now' : Nat → Int32) (q_fitting' : Nat → Int32), fI lX11 hX11 x0' ∧ iv (-1) (-1) (x0' 11) ∧ fI lNow hNow q_now' ∧ (x0' 1 = x0 1) ∧ (x0' 10 = x0 10) ∧ (x0' 14 = x0 14) ∧ va_P (dC, dI) vwCl [(m0, .inr (11, oX11 ra x0')), (ra 2, .inl (kI, 8, .inl q_told)), (ra 3, .inl (kI, 24, .inl q_kind)), (ra 4, .inl (kI, 24, .inl q_salt)), (ra 6, .inl (kI, 24, .inl q_mute)), (ra 7, .inl (kI, 24, .inl q_late)), (ra 8, .inl (kI, 40, .inl q_from)), (ra 9, .inl (kI, 40, .inl q_to)), (ra 10, .inl (kI, 6, .inl q_goal)), (ra 11, .inl (kI, 1019, .inl q_now')), (ra 14, .inl (kI, 12, .inl q_reach)), (ra 22, .inl (kI, 8, .inl q_notedPort)), (ra 23, .inl (kI, 8, .inl q_notedGoal)), (ra 24, .inl (kI, 8, .inl q_notedHop)), (ra 25, .inl (kI, 8, .inl q_notedAddress)), (ra 26, .inl (kZ, 64, .inl q_fitting'))] t.heap ∧ va_D (va_A [(m0, .inr (11, oX11 ra x0)), (ra 2, .inl (kI, 8, .inl q_told)), (ra 3, .inl (kI, 24, .inl q_kind)), (ra 4, .inl (kI, 24, .inl q_salt)), (ra 6, .inl (kI, 24, .inl q_mute)), (ra 7, .inl (kI, 24, .inl q_late)), (ra 8, .inl (kI, 40, .inl q_from)), (ra 9, .inl (kI, 40, .inl q_to)), (ra 10, .inl (kI, 6, .inl q_goal)), (ra 11, .inl (kI, 1019, .inl q_now)), (ra 14, .inl (kI, 12, .inl q_reach)), (ra 22, .inl (kI, 8, .inl q_notedPort)), (ra 23, .inl (kI, 8, .inl q_notedGoal)), (ra 24, .inl (kI, 8, .inl q_notedHop)), (ra 25, .inl (kI, 8, .inl q_notedAddress)), (ra 26, .inl (kZ, 64, .inl q_fitting))] sz) [(m0, .inr (11, oX11 ra x0')), (ra 2, .inl (kI, 8, .inl q_told)), (ra 3, .inl (kI, 24, .inl q_kind)), (ra 4, .inl (kI, 24, .inl q_salt)), (ra 6, .inl (kI, 24, .inl q_mute)), (ra 7, .inl (kI, 24, .inl q_late)), (ra 8, .inl (kI, 40, .inl q_from)), (ra 9, .inl (kI, 40, .inl q_to)), (ra 10, .inl (kI, 6, .inl q_goal)), (ra 11, .inl (kI, 1019, .inl q_now')), (ra 14, .inl (kI, 12, .inl q_reach)), (ra 22, .inl (kI, 8, .inl q_notedPort)), (ra 23, .inl (kI, 8, .inl q_notedGoal)), (ra 24, .inl (kI, 8, .inl q_notedHop)), (ra 25, .inl (kI, 8, .inl q_notedAddress)), (ra 26, .inl (kZ, 64, .inl q_fitting'))]) (va_A [(m0, .inr (11, oX11 ra x0)), (ra 2, .inl (kI, 8, .inl q_told)), (ra 3, .inl (kI, 24, .inl q_kind)), (ra 4, .inl (kI, 24, .inl q_salt)), (ra 6, .inl (kI, 24, .inl q_mute)), (ra 7, .inl (kI, 24, .inl q_late)), (ra 8, .inl (kI, 40, .inl q_from)), (ra 9, .inl (kI, 40, .inl q_to)), (ra 10, .inl (kI, 6, .inl q_goal)), (ra 11, .inl (kI, 1019, .inl q_now)), (ra 14, .inl (kI, 12, .inl q_reach)), (ra 22, .inl (kI, 8, .inl q_notedPort)), (ra 23, .inl (kI, 8, .inl q_notedGoal)), (ra 24, .inl (kI, 8, .inl q_notedHop)), (ra 25, .inl (kI, 8, .inl q_notedAddress)), (ra 26, .inl (kZ, 64, .inl q_fitting))] sz)) 0 0 (va_A [(m0, .inr (11, oX11 ra x0)), (ra 2, .inl (kI, 8, .inl q_told)), (ra 3, .inl (kI, 24, .inl q_kind)), (ra 4, .inl (kI, 24, .inl q_salt)), (ra 6, .inl (kI, 24, .inl q_mute)), (ra 7, .inl (kI, 24, .inl q_late)), (ra 8, .inl (kI, 40, .inl q_from)), (ra 9, .inl (kI, 40, .inl q_to)), (ra 10, .inl (kI, 6, .inl q_goal)), (ra 11, .inl (kI, 1019, .inl q_now)), (ra 14, .inl (kI, 12, .inl q_reach)), (ra 22, .inl (kI, 8, .inl q_notedPort)), (ra 23, .inl (kI, 8, .inl q_notedGoal)), (ra 24, .inl (kI, 8, .inl q_notedHop)), (ra 25, .inl (kI, 8, .inl q_notedAddress)), (ra 26, .inl (kZ, 64, .inl q_fitting))] sz) := by
  refine Met.ofW (cc := cX11_look) (maxL := 8) (ret := (some .int)) (by decide) rfl ?_
  intro p e s m args0 below meth c s₁ B hml hv
  obtain ⟨hargs, hsz, hP, hE, hD0⟩ := hv
  have hx := B.exec
  have hb := B.bytes
  have hr := B.returns
  have hts := atoms_spec (ws := wsX11_look) B.pre
  have hown : s.vm.findClass RX11 = some m.cls := findClass_of_methodNamed B.named
  have hlocks := B.notSynchronized
  have hK := hE.1
  have hin11 : ∀ w ∈ wsX110, w ∈ wsX11_look := fun _ h9 => List.mem_cons_of_mem _ (List.mem_append_right _ h9)
  have hw_0 := hts (.fieldLink RX11 142 "PathProberModel" "code" "I") (List.mem_of_getElem? (i := 1) rfl)
  subst hsz
  have hD := hD0.self (sz := s.heap.size)
  generalize hAe : va_A [(m0, .inr (11, oX11 ra x0)), (ra 2, .inl (kI, 8, .inl q_told)), (ra 3, .inl (kI, 24, .inl q_kind)), (ra 4, .inl (kI, 24, .inl q_salt)), (ra 6, .inl (kI, 24, .inl q_mute)), (ra 7, .inl (kI, 24, .inl q_late)), (ra 8, .inl (kI, 40, .inl q_from)), (ra 9, .inl (kI, 40, .inl q_to)), (ra 10, .inl (kI, 6, .inl q_goal)), (ra 11, .inl (kI, 1019, .inl q_now)), (ra 14, .inl (kI, 12, .inl q_reach)), (ra 22, .inl (kI, 8, .inl q_notedPort)), (ra 23, .inl (kI, 8, .inl q_notedGoal)), (ra 24, .inl (kI, 8, .inl q_notedHop)), (ra 25, .inl (kI, 8, .inl q_notedAddress)), (ra 26, .inl (kZ, 64, .inl q_fitting))] s.heap.size = A at hD ⊢
  have hA : ∀ q : Nat, s.heap.size ≤ q → A q := fun q h => by rw [← hAe]; exact Or.inr h
  have hS : va_S A s.heap s.heap [] := va_S.rf
  have hP : va_P (dC, dI) vwCl [(m0, .inr (11, oX11 ra x0)), (ra 2, .inl (kI, 8, .inl q_told)), (ra 3, .inl (kI, 24, .inl q_kind)), (ra 4, .inl (kI, 24, .inl q_salt)), (ra 6, .inl (kI, 24, .inl q_mute)), (ra 7, .inl (kI, 24, .inl q_late)), (ra 8, .inl (kI, 40, .inl q_from)), (ra 9, .inl (kI, 40, .inl q_to)), (ra 10, .inl (kI, 6, .inl q_goal)), (ra 11, .inl (kI, 1019, .inl q_now)), (ra 14, .inl (kI, 12, .inl q_reach)), (ra 22, .inl (kI, 8, .inl q_notedPort)), (ra 23, .inl (kI, 8, .inl q_notedGoal)), (ra 24, .inl (kI, 8, .inl q_notedHop)), (ra 25, .inl (kI, 8, .inl q_notedAddress)), (ra 26, .inl (kZ, 64, .inl q_fitting))] s.heap := hP
  have hl := lv_entry ([.ref m0, .int p0, .int p1, .int p2]) (n := 8) (Nat.le_of_ble_eq_true rfl)
  have hla : entryFrame m args0 8 = entryFrame m ([.ref m0, .int p0, .int p1, .int p2] : List Value).toArray 8 := by rw [hargs]
  rw [hla, lg_entry_eq]
  generalize (lg_sl ([.ref m0, .int p0, .int p1, .int p2]) ++ List.replicate (8 - (lg_sl ([.ref m0, .int p0, .int p1, .int p2])).length) Slot.unset).toArray = ls at hl ⊢
  have hl : lv_has ls 8 [(0, .ref m0), (1, .int p0), (2, .int p1), (3, .int p2)] := hl
  have hJ30 : ∀ (y30_0 : Nat → Int32) (H : Heap) (locs : List Loc) (ls : Array Slot), fI lX11 hX11 y30_0 → iv 0 0 (y30_0 0) → iv (-1) (-1) (y30_0 11) → (y30_0 1 = x0 1) → (y30_0 10 = x0 10) → (y30_0 14 = x0 14) → va_P (dC, dI) vwCl [(m0, .inr (11, oX11 ra y30_0)), (ra 2, .inl (kI, 8, .inl q_told)), (ra 3, .inl (kI, 24, .inl q_kind)), (ra 4, .inl (kI, 24, .inl q_salt)), (ra 6, .inl (kI, 24, .inl q_mute)), (ra 7, .inl (kI, 24, .inl q_late)), (ra 8, .inl (kI, 40, .inl q_from)), (ra 9, .inl (kI, 40, .inl q_to)), (ra 10, .inl (kI, 6, .inl q_goal)), (ra 11, .inl (kI, 1019, .inl q_now)), (ra 14, .inl (kI, 12, .inl q_reach)), (ra 22, .inl (kI, 8, .inl q_notedPort)), (ra 23, .inl (kI, 8, .inl q_notedGoal)), (ra 24, .inl (kI, 8, .inl q_notedHop)), (ra 25, .inl (kI, 8, .inl q_notedAddress)), (ra 26, .inl (kZ, 64, .inl q_fitting))] H → va_D A [(m0, .inr (11, oX11 ra y30_0)), (ra 2, .inl (kI, 8, .inl q_told)), (ra 3, .inl (kI, 24, .inl q_kind)), (ra 4, .inl (kI, 24, .inl q_salt)), (ra 6, .inl (kI, 24, .inl q_mute)), (ra 7, .inl (kI, 24, .inl q_late)), (ra 8, .inl (kI, 40, .inl q_from)), (ra 9, .inl (kI, 40, .inl q_to)), (ra 10, .inl (kI, 6, .inl q_goal)), (ra 11, .inl (kI, 1019, .inl q_now)), (ra 14, .inl (kI, 12, .inl q_reach)), (ra 22, .inl (kI, 8, .inl q_notedPort)), (ra 23, .inl (kI, 8, .inl q_notedGoal)), (ra 24, .inl (kI, 8, .inl q_notedHop)), (ra 25, .inl (kI, 8, .inl q_notedAddress)), (ra 26, .inl (kZ, 64, .inl q_fitting))] → va_S A s.heap H locs → lv_has ls 8 [(0, .ref m0), (1, .int p0), (2, .int p1), (3, .int p2)] → W p l e (headSpec wsX11_look rm_s11_look).room s m args0 below meth c H locs (0) (0) (MQ below (va_Qi (fun (r : Int32) (_ : Unit) => iv (-1) 2147483647 r) (fun _ t => ∃ (x0' : Nat → Int32) (q_now' : Nat → Int32) (q_fitting' : Nat → Int32), fI lX11 hX11 x0' ∧ iv (-1) (-1) (x0' 11) ∧ fI lNow hNow q_now' ∧ (x0' 1 = x0 1) ∧ (x0' 10 = x0 10) ∧ (x0' 14 = x0 14) ∧ va_P (dC, dI) vwCl [(m0, .inr (11, oX11 ra x0')), (ra 2, .inl (kI, 8, .inl q_told)), (ra 3, .inl (kI, 24, .inl q_kind)), (ra 4, .inl (kI, 24, .inl q_salt)), (ra 6, .inl (kI, 24, .inl q_mute)), (ra 7, .inl (kI, 24, .inl q_late)), (ra 8, .inl (kI, 40, .inl q_from)), (ra 9, .inl (kI, 40, .inl q_to)), (ra 10, .inl (kI, 6, .inl q_goal)), (ra 11, .inl (kI, 1019, .inl q_now')), (ra 14, .inl (kI, 12, .inl q_reach)), (ra 22, .inl (kI, 8, .inl q_notedPort)), (ra 23, .inl (kI, 8, .inl q_notedGoal)), (ra 24, .inl (kI, 8, .inl q_notedHop)), (ra 25, .inl (kI, 8, .inl q_notedAddress)), (ra 26, .inl (kZ, 64, .inl q_fitting'))] t.heap ∧ va_D A [(m0, .inr (11, oX11 ra x0')), (ra 2, .inl (kI, 8, .inl q_told)), (ra 3, .inl (kI, 24, .inl q_kind)), (ra 4, .inl (kI, 24, .inl q_salt)), (ra 6, .inl (kI, 24, .inl q_mute)), (ra 7, .inl (kI, 24, .inl q_late)), (ra 8, .inl (kI, 40, .inl q_from)), (ra 9, .inl (kI, 40, .inl q_to)), (ra 10, .inl (kI, 6, .inl q_goal)), (ra 11, .inl (kI, 1019, .inl q_now')), (ra 14, .inl (kI, 12, .inl q_reach)), (ra 22, .inl (kI, 8, .inl q_notedPort)), (ra 23, .inl (kI, 8, .inl q_notedGoal)), (ra 24, .inl (kI, 8, .inl q_notedHop)), (ra 25, .inl (kI, 8, .inl q_notedAddress)), (ra 26, .inl (kZ, 64, .inl q_fitting'))]) A) args0 s 0 0 A) (F0 m 30 ls []) := by
    intro y30_0 H locs ls hI30_0 h30_2 h30_3 htp_30 hfp_30 hirl_30 hP hD hS hl
    refine lv_aload_n hx hb dX11_look_30 rfl (lv_at hl 0 rfl) ?_
    refine lv_iconst (v := 1) hx hb dX11_look_31 ic_1 ?_
    obtain ⟨hPc, hDc, hFc, hJn⟩ := cl_a (wc := [(m0, .inr (11, oX11 ra y30_0))]) (wr := [(ra 2, .inl (kI, 8, .inl q_told)), (ra 3, .inl (kI, 24, .inl q_kind)), (ra 4, .inl (kI, 24, .inl q_salt)), (ra 6, .inl (kI, 24, .inl q_mute)), (ra 7, .inl (kI, 24, .inl q_late)), (ra 8, .inl (kI, 40, .inl q_from)), (ra 9, .inl (kI, 40, .inl q_to)), (ra 10, .inl (kI, 6, .inl q_goal)), (ra 11, .inl (kI, 1019, .inl q_now)), (ra 14, .inl (kI, 12, .inl q_reach)), (ra 22, .inl (kI, 8, .inl q_notedPort)), (ra 23, .inl (kI, 8, .inl q_notedGoal)), (ra 24, .inl (kI, 8, .inl q_notedHop)), (ra 25, .inl (kI, 8, .inl q_notedAddress)), (ra 26, .inl (kZ, 64, .inl q_fitting))]) hP hD hS hA [0] [1, 2, 3, 4, 5, 6, 7, 8, 9, 10, 11, 12, 13, 14, 15] rfl rfl (by decide +kernel)
    refine va_calli (va_runV (As := [.int 1]) (rest := []) ⟨hx, hb, hml, hown, hts⟩ (s11_fail l dC dI kB kI kJ kZ kC kS H.size m0 ra y30_0 1 (hI30_0)) (cwV 1 hts gX11_look_X11_fail rfl rfl rfl (by decide +kernel) ⟨Nat.le_of_ble_eq_true rfl, Nat.le_of_ble_eq_true rfl⟩) ⟨fun a U g mk q => by obtain ⟨q0, q1, qP, qE, qD⟩ := q; exact ⟨q0, q1, qP, kE_call qE, qD⟩, va_recv hK hP (ci := 11) (q0 := 0) rfl rfl, fun U hU hW => ⟨rfl, by rw [hU], by rw [hU]; exact hPc, kE_warm hW hE, hDc.weaken (fun _ _ _ _ => trivial)⟩⟩ rfl rfl hl.1 rfl (lv_room (Nat.le_of_ble_eq_true rfl)) dX11_look_32 ⟨Nat.le_of_ble_eq_true rfl, Nat.le_of_ble_eq_true rfl⟩) hS (fun q _ h => hFc q h) hFc (fun r1 u t H locs ht hvm w2 hB hz1 hk1 hS => ?_)
    obtain ⟨y3, hq4, hq5, hq6, hq7, hq8, hq9, hP1, hD1⟩ := hB
    try dsimp only at w2
    obtain ⟨hPa, hDa⟩ := hJn (w1 := [(m0, .inr (11, oX11 ra y3))]) hk1 ht hP1 hD1
    clear hP hD hPc hDc hFc hJn hP1 hD1 hk1
    have hP : va_P (dC, dI) vwCl [(ra 2, .inl (kI, 8, .inl q_told)), (ra 3, .inl (kI, 24, .inl q_kind)), (ra 4, .inl (kI, 24, .inl q_salt)), (ra 6, .inl (kI, 24, .inl q_mute)), (ra 7, .inl (kI, 24, .inl q_late)), (ra 8, .inl (kI, 40, .inl q_from)), (ra 9, .inl (kI, 40, .inl q_to)), (ra 10, .inl (kI, 6, .inl q_goal)), (ra 11, .inl (kI, 1019, .inl q_now)), (ra 14, .inl (kI, 12, .inl q_reach)), (ra 22, .inl (kI, 8, .inl q_notedPort)), (ra 23, .inl (kI, 8, .inl q_notedGoal)), (ra 24, .inl (kI, 8, .inl q_notedHop)), (ra 25, .inl (kI, 8, .inl q_notedAddress)), (ra 26, .inl (kZ, 64, .inl q_fitting)), (m0, .inr (11, oX11 ra y3))] H := hPa
    have hD : va_D A [(ra 2, .inl (kI, 8, .inl q_told)), (ra 3, .inl (kI, 24, .inl q_kind)), (ra 4, .inl (kI, 24, .inl q_salt)), (ra 6, .inl (kI, 24, .inl q_mute)), (ra 7, .inl (kI, 24, .inl q_late)), (ra 8, .inl (kI, 40, .inl q_from)), (ra 9, .inl (kI, 40, .inl q_to)), (ra 10, .inl (kI, 6, .inl q_goal)), (ra 11, .inl (kI, 1019, .inl q_now)), (ra 14, .inl (kI, 12, .inl q_reach)), (ra 22, .inl (kI, 8, .inl q_notedPort)), (ra 23, .inl (kI, 8, .inl q_notedGoal)), (ra 24, .inl (kI, 8, .inl q_notedHop)), (ra 25, .inl (kI, 8, .inl q_notedAddress)), (ra 26, .inl (kZ, 64, .inl q_fitting)), (m0, .inr (11, oX11 ra y3))] := hDa
    clear hPa hDa
    refine W.widen (k := 0) (n := 0) (Nat.le_of_ble_eq_true rfl) (Nat.le_of_ble_eq_true rfl) ?_
    obtain rfl : r1 = 0 := iv_one w2 (by decide)
    have hPD9 := cl_s (wc := [(m0, .inr (11, oX11 ra y3)), (ra 2, .inl (kI, 8, .inl q_told)), (ra 3, .inl (kI, 24, .inl q_kind)), (ra 4, .inl (kI, 24, .inl q_salt)), (ra 6, .inl (kI, 24, .inl q_mute)), (ra 7, .inl (kI, 24, .inl q_late)), (ra 8, .inl (kI, 40, .inl q_from)), (ra 9, .inl (kI, 40, .inl q_to)), (ra 10, .inl (kI, 6, .inl q_goal)), (ra 11, .inl (kI, 1019, .inl q_now)), (ra 14, .inl (kI, 12, .inl q_reach)), (ra 22, .inl (kI, 8, .inl q_notedPort)), (ra 23, .inl (kI, 8, .inl q_notedGoal)), (ra 24, .inl (kI, 8, .inl q_notedHop)), (ra 25, .inl (kI, 8, .inl q_notedAddress)), (ra 26, .inl (kZ, 64, .inl q_fitting))]) hP hD [15, 0, 1, 2, 3, 4, 5, 6, 7, 8, 9, 10, 11, 12, 13, 14] rfl (by decide +kernel)
    have hP9 := hPD9.1
    have hD9 := hPD9.2
    exact W.iret (v := 0) hx hb hr (fun t ht hW => ⟨⟨0, (), rfl, (iv_w ivk_0 (by decide) (by decide)), y3, q_now, q_fitting, hq4, (iv_eqL hq8 h30_3), hq_now, (show y3 1 = x0 1 from hq6.trans (htp_30)), (show y3 10 = x0 10 from hq7.trans (hfp_30)), (show y3 14 = x0 14 from hq9.trans (hirl_30)), by rw [ht]; exact hP9, hD9⟩, hS.F ht⟩) hS.2.2 dX11_look_35
  have hJ50 : ∀ (n : Nat) (y50_0 : Nat → Int32) (g50_9 : Nat → Int32) (g50_15 : Nat → Int32) (v50_loc4 : Int32) (v50_loc5 : Int32) (v50_loc6 : Int32) (H : Heap) (locs : List Loc) (ls : Array Slot), (32 - v50_loc6.toInt).toNat < n → fI lX11 hX11 y50_0 → fI lNow hNow g50_9 → iv 0 11 p0 → iv 0 2 p1 → iv 0 1 p2 → iv (-1) 31 v50_loc4 → iv 0 2147483647 v50_loc5 → iv 0 32 v50_loc6 → iv (-1) (-1) (y50_0 11) → (y50_0 1 = x0 1) → (y50_0 10 = x0 10) → (y50_0 14 = x0 14) → va_P (dC, dI) vwCl [(m0, .inr (11, oX11 ra y50_0)), (ra 2, .inl (kI, 8, .inl q_told)), (ra 3, .inl (kI, 24, .inl q_kind)), (ra 4, .inl (kI, 24, .inl q_salt)), (ra 6, .inl (kI, 24, .inl q_mute)), (ra 7, .inl (kI, 24, .inl q_late)), (ra 8, .inl (kI, 40, .inl q_from)), (ra 9, .inl (kI, 40, .inl q_to)), (ra 10, .inl (kI, 6, .inl q_goal)), (ra 11, .inl (kI, 1019, .inl g50_9)), (ra 14, .inl (kI, 12, .inl q_reach)), (ra 22, .inl (kI, 8, .inl q_notedPort)), (ra 23, .inl (kI, 8, .inl q_notedGoal)), (ra 24, .inl (kI, 8, .inl q_notedHop)), (ra 25, .inl (kI, 8, .inl q_notedAddress)), (ra 26, .inl (kZ, 64, .inl g50_15))] H → va_D A [(m0, .inr (11, oX11 ra y50_0)), (ra 2, .inl (kI, 8, .inl q_told)), (ra 3, .inl (kI, 24, .inl q_kind)), (ra 4, .inl (kI, 24, .inl q_salt)), (ra 6, .inl (kI, 24, .inl q_mute)), (ra 7, .inl (kI, 24, .inl q_late)), (ra 8, .inl (kI, 40, .inl q_from)), (ra 9, .inl (kI, 40, .inl q_to)), (ra 10, .inl (kI, 6, .inl q_goal)), (ra 11, .inl (kI, 1019, .inl g50_9)), (ra 14, .inl (kI, 12, .inl q_reach)), (ra 22, .inl (kI, 8, .inl q_notedPort)), (ra 23, .inl (kI, 8, .inl q_notedGoal)), (ra 24, .inl (kI, 8, .inl q_notedHop)), (ra 25, .inl (kI, 8, .inl q_notedAddress)), (ra 26, .inl (kZ, 64, .inl g50_15))] → va_S A s.heap H locs → lv_has ls 8 [(0, .ref m0), (1, .int p0), (2, .int p1), (3, .int p2), (4, .int v50_loc4), (5, .int v50_loc5), (6, .int v50_loc6)] → W p l e (headSpec wsX11_look rm_s11_look).room s m args0 below meth c H locs (0) (0) (MQ below (va_Qi (fun (r : Int32) (_ : Unit) => iv (-1) 2147483647 r) (fun _ t => ∃ (x0' : Nat → Int32) (q_now' : Nat → Int32) (q_fitting' : Nat → Int32), fI lX11 hX11 x0' ∧ iv (-1) (-1) (x0' 11) ∧ fI lNow hNow q_now' ∧ (x0' 1 = x0 1) ∧ (x0' 10 = x0 10) ∧ (x0' 14 = x0 14) ∧ va_P (dC, dI) vwCl [(m0, .inr (11, oX11 ra x0')), (ra 2, .inl (kI, 8, .inl q_told)), (ra 3, .inl (kI, 24, .inl q_kind)), (ra 4, .inl (kI, 24, .inl q_salt)), (ra 6, .inl (kI, 24, .inl q_mute)), (ra 7, .inl (kI, 24, .inl q_late)), (ra 8, .inl (kI, 40, .inl q_from)), (ra 9, .inl (kI, 40, .inl q_to)), (ra 10, .inl (kI, 6, .inl q_goal)), (ra 11, .inl (kI, 1019, .inl q_now')), (ra 14, .inl (kI, 12, .inl q_reach)), (ra 22, .inl (kI, 8, .inl q_notedPort)), (ra 23, .inl (kI, 8, .inl q_notedGoal)), (ra 24, .inl (kI, 8, .inl q_notedHop)), (ra 25, .inl (kI, 8, .inl q_notedAddress)), (ra 26, .inl (kZ, 64, .inl q_fitting'))] t.heap ∧ va_D A [(m0, .inr (11, oX11 ra x0')), (ra 2, .inl (kI, 8, .inl q_told)), (ra 3, .inl (kI, 24, .inl q_kind)), (ra 4, .inl (kI, 24, .inl q_salt)), (ra 6, .inl (kI, 24, .inl q_mute)), (ra 7, .inl (kI, 24, .inl q_late)), (ra 8, .inl (kI, 40, .inl q_from)), (ra 9, .inl (kI, 40, .inl q_to)), (ra 10, .inl (kI, 6, .inl q_goal)), (ra 11, .inl (kI, 1019, .inl q_now')), (ra 14, .inl (kI, 12, .inl q_reach)), (ra 22, .inl (kI, 8, .inl q_notedPort)), (ra 23, .inl (kI, 8, .inl q_notedGoal)), (ra 24, .inl (kI, 8, .inl q_notedHop)), (ra 25, .inl (kI, 8, .inl q_notedAddress)), (ra 26, .inl (kZ, 64, .inl q_fitting'))]) A) args0 s 0 0 A) (F0 m 50 ls []) := by
    intro n
    induction n with
    | zero => intro y50_0 g50_9 g50_15 v50_loc4 v50_loc5 v50_loc6 H locs ls hm50; exact absurd hm50 (Nat.not_lt_zero _)
    | succ n ih50 =>
      intro y50_0 g50_9 g50_15 v50_loc4 v50_loc5 v50_loc6 H locs ls hm50 hI50_0 hI50_9 h50_3 h50_4 h50_5 h50_6 h50_7 h50_8 h50_9 htp_50 hfp_50 hirl_50 hP hD hS hl
      have hJ85 : ∀ (y85_0 : Nat → Int32) (g85_9 : Nat → Int32) (v85_loc4 : Int32) (v85_loc5 : Int32) (v85_loc7 : Int32) (H : Heap) (locs : List Loc) (ls : Array Slot), fI lX11 hX11 y85_0 → fI lNow hNow g85_9 → iv (-1) 31 v85_loc4 → iv 0 2147483647 v85_loc5 → iv 0 31 v50_loc6 → iv 0 63 v85_loc7 → iv (-1) (-1) (y85_0 11) → (y85_0 1 = x0 1) → (y85_0 10 = x0 10) → (y85_0 14 = x0 14) → va_P (dC, dI) vwCl [(m0, .inr (11, oX11 ra y85_0)), (ra 2, .inl (kI, 8, .inl q_told)), (ra 3, .inl (kI, 24, .inl q_kind)), (ra 4, .inl (kI, 24, .inl q_salt)), (ra 6, .inl (kI, 24, .inl q_mute)), (ra 7, .inl (kI, 24, .inl q_late)), (ra 8, .inl (kI, 40, .inl q_from)), (ra 9, .inl (kI, 40, .inl q_to)), (ra 10, .inl (kI, 6, .inl q_goal)), (ra 11, .inl (kI, 1019, .inl g85_9)), (ra 14, .inl (kI, 12, .inl q_reach)), (ra 22, .inl (kI, 8, .inl q_notedPort)), (ra 23, .inl (kI, 8, .inl q_notedGoal)), (ra 24, .inl (kI, 8, .inl q_notedHop)), (ra 25, .inl (kI, 8, .inl q_notedAddress)), (ra 26, .inl (kZ, 64, .inl g50_15))] H → va_D A [(m0, .inr (11, oX11 ra y85_0)), (ra 2, .inl (kI, 8, .inl q_told)), (ra 3, .inl (kI, 24, .inl q_kind)), (ra 4, .inl (kI, 24, .inl q_salt)), (ra 6, .inl (kI, 24, .inl q_mute)), (ra 7, .inl (kI, 24, .inl q_late)), (ra 8, .inl (kI, 40, .inl q_from)), (ra 9, .inl (kI, 40, .inl q_to)), (ra 10, .inl (kI, 6, .inl q_goal)), (ra 11, .inl (kI, 1019, .inl g85_9)), (ra 14, .inl (kI, 12, .inl q_reach)), (ra 22, .inl (kI, 8, .inl q_notedPort)), (ra 23, .inl (kI, 8, .inl q_notedGoal)), (ra 24, .inl (kI, 8, .inl q_notedHop)), (ra 25, .inl (kI, 8, .inl q_notedAddress)), (ra 26, .inl (kZ, 64, .inl g50_15))] → va_S A s.heap H locs → lv_has ls 8 [(0, .ref m0), (1, .int p0), (2, .int p1), (3, .int p2), (4, .int v85_loc4), (5, .int v85_loc5), (6, .int v50_loc6), (7, .int v85_loc7)] → W p l e (headSpec wsX11_look rm_s11_look).room s m args0 below meth c H locs (0) (0) (MQ below (va_Qi (fun (r : Int32) (_ : Unit) => iv (-1) 2147483647 r) (fun _ t => ∃ (x0' : Nat → Int32) (q_now' : Nat → Int32) (q_fitting' : Nat → Int32), fI lX11 hX11 x0' ∧ iv (-1) (-1) (x0' 11) ∧ fI lNow hNow q_now' ∧ (x0' 1 = x0 1) ∧ (x0' 10 = x0 10) ∧ (x0' 14 = x0 14) ∧ va_P (dC, dI) vwCl [(m0, .inr (11, oX11 ra x0')), (ra 2, .inl (kI, 8, .inl q_told)), (ra 3, .inl (kI, 24, .inl q_kind)), (ra 4, .inl (kI, 24, .inl q_salt)), (ra 6, .inl (kI, 24, .inl q_mute)), (ra 7, .inl (kI, 24, .inl q_late)), (ra 8, .inl (kI, 40, .inl q_from)), (ra 9, .inl (kI, 40, .inl q_to)), (ra 10, .inl (kI, 6, .inl q_goal)), (ra 11, .inl (kI, 1019, .inl q_now')), (ra 14, .inl (kI, 12, .inl q_reach)), (ra 22, .inl (kI, 8, .inl q_notedPort)), (ra 23, .inl (kI, 8, .inl q_notedGoal)), (ra 24, .inl (kI, 8, .inl q_notedHop)), (ra 25, .inl (kI, 8, .inl q_notedAddress)), (ra 26, .inl (kZ, 64, .inl q_fitting'))] t.heap ∧ va_D A [(m0, .inr (11, oX11 ra x0')), (ra 2, .inl (kI, 8, .inl q_told)), (ra 3, .inl (kI, 24, .inl q_kind)), (ra 4, .inl (kI, 24, .inl q_salt)), (ra 6, .inl (kI, 24, .inl q_mute)), (ra 7, .inl (kI, 24, .inl q_late)), (ra 8, .inl (kI, 40, .inl q_from)), (ra 9, .inl (kI, 40, .inl q_to)), (ra 10, .inl (kI, 6, .inl q_goal)), (ra 11, .inl (kI, 1019, .inl q_now')), (ra 14, .inl (kI, 12, .inl q_reach)), (ra 22, .inl (kI, 8, .inl q_notedPort)), (ra 23, .inl (kI, 8, .inl q_notedGoal)), (ra 24, .inl (kI, 8, .inl q_notedHop)), (ra 25, .inl (kI, 8, .inl q_notedAddress)), (ra 26, .inl (kZ, 64, .inl q_fitting'))]) A) args0 s 0 0 A) (F0 m 85 ls []) := by
        intro y85_0 g85_9 v85_loc4 v85_loc5 v85_loc7 H locs ls hI85_0 hI85_9 h85_3 h85_4 h85_5 h85_6 h85_7 htp_85 hfp_85 hirl_85 hP hD hS hl
        refine lv_iinc (v := v50_loc6 + Int32.ofInt 1) (lv' := [(6, .int (v50_loc6 + Int32.ofInt 1)), (0, .ref m0), (1, .int p0), (2, .int p1), (3, .int p2), (4, .int v85_loc4), (5, .int v85_loc5), (7, .int v85_loc7)]) hx hb dX11_look_85 hl (k := 6) rfl (rfl) (Nat.le_of_ble_eq_true rfl) rfl (fun ls hl => ?_)
        have b10 : iv 1 32 (v50_loc6 + Int32.ofInt 1) := iv_add h85_5 ivo_1 (by decide) (by decide) (by decide) (by decide)
        refine lv_goto (tgt := 50) hx hb dX11_look_88 rfl ?_
        exact ih50 y85_0 g85_9 g50_15 v85_loc4 v85_loc5 (v50_loc6 + Int32.ofInt 1) _ _ _ (ms_up (c := 1) (d := 0) h85_5 hm50 (by decide) (iv_inc 1 h85_5 (by decide) (by decide) (by decide) (by decide)) (by decide) rfl) (hI85_0) (hI85_9) (h50_3) (h50_4) (h50_5) (h85_3) (h85_4) ((iv_w b10 (by decide) (by decide))) (h85_7) ((show y85_0 1 = x0 1 from htp_85)) ((show y85_0 10 = x0 10 from hfp_85)) ((show y85_0 14 = x0 14 from hirl_85)) (hP) (hD) hS (lv_sub hl [1, 2, 3, 4, 5, 6, 0] rfl)
      refine lv_iload hx hb dX11_look_50 (lv_at hl 6 rfl) ?_
      refine lv_bipush (v := 32) hx hb dX11_look_52 bp_32 ?_
      refine lv_icmp_ge (tgt := 91) hx hb dX11_look_54 rfl (fun c11 => ?_) (fun c11 => ?_)
      · have b12 : iv 32 32 v50_loc6 := iv_leR c11 ivk_32 h50_8 (by decide) (by decide)
        refine lv_iload_n hx hb dX11_look_91 rfl (lv_at hl 3 rfl) ?_
        refine lv_if_ne (tgt := 100) hx hb dX11_look_92 rfl (fun c13 => ?_) (fun c13 => ?_)
        · have b14 : iv 1 1 p2 := iv_neLo c13 h50_5 ivk_0 (by decide) (by decide)
          refine lv_iload hx hb dX11_look_100 (lv_at hl 5 rfl) ?_
          have hP9 := hP
          have hD9 := hD
          exact W.iret (v := v50_loc5) hx hb hr (fun t ht hW => ⟨⟨v50_loc5, (), rfl, (iv_w h50_7 (by decide) (by decide)), y50_0, g50_9, g50_15, hI50_0, h50_9, hI50_9, (show y50_0 1 = x0 1 from htp_50), (show y50_0 10 = x0 10 from hfp_50), (show y50_0 14 = x0 14 from hirl_50), by rw [ht]; exact hP9, hD9⟩, hS.F ht⟩) hS.2.2 dX11_look_102
        · have b15 : iv 0 0 p2 := iv_eqL c13 ivk_0
          refine lv_iload hx hb dX11_look_95 (lv_at hl 4 rfl) ?_
          refine lv_goto (tgt := 102) hx hb dX11_look_97 rfl ?_
          have hP9 := hP
          have hD9 := hD
          exact W.iret (v := v50_loc4) hx hb hr (fun t ht hW => ⟨⟨v50_loc4, (), rfl, (iv_w h50_6 (by decide) (by decide)), y50_0, g50_9, g50_15, hI50_0, h50_9, hI50_9, (show y50_0 1 = x0 1 from htp_50), (show y50_0 10 = x0 10 from hfp_50), (show y50_0 14 = x0 14 from hirl_50), by rw [ht]; exact hP9, hD9⟩, hS.F ht⟩) hS.2.2 dX11_look_102
      · have b16 : iv 0 31 v50_loc6 := iv_ltL (Int32.not_le.mp c11) h50_8 ivk_32 (by decide) (by decide)
        refine lv_aload_n hx hb dX11_look_57 rfl (lv_at hl 0 rfl) ?_
        refine lv_iload_n hx hb dX11_look_58 rfl (lv_at hl 1 rfl) ?_
        refine lv_iload hx hb dX11_look_59 (lv_at hl 6 rfl) ?_
        refine lv_iload_n hx hb dX11_look_61 rfl (lv_at hl 2 rfl) ?_
        obtain ⟨hPc, hDc, hFc, hJn⟩ := cl_a (wc := [(m0, .inr (11, oX11 ra y50_0)), (ra 2, .inl (kI, 8, .inl q_told)), (ra 3, .inl (kI, 24, .inl q_kind)), (ra 4, .inl (kI, 24, .inl q_salt)), (ra 8, .inl (kI, 40, .inl q_from)), (ra 9, .inl (kI, 40, .inl q_to)), (ra 10, .inl (kI, 6, .inl q_goal)), (ra 11, .inl (kI, 1019, .inl g50_9)), (ra 14, .inl (kI, 12, .inl q_reach)), (ra 26, .inl (kZ, 64, .inl g50_15))]) (wr := [(ra 6, .inl (kI, 24, .inl q_mute)), (ra 7, .inl (kI, 24, .inl q_late)), (ra 22, .inl (kI, 8, .inl q_notedPort)), (ra 23, .inl (kI, 8, .inl q_notedGoal)), (ra 24, .inl (kI, 8, .inl q_notedHop)), (ra 25, .inl (kI, 8, .inl q_notedAddress))]) hP hD hS hA [0, 1, 2, 3, 6, 7, 8, 9, 10, 15] [4, 5, 11, 12, 13, 14] rfl rfl (by decide +kernel)
        refine va_calli (va_runV (As := [.int p0, .int v50_loc6, .int p1]) (rest := []) ⟨hx, hb, hml, hown, hts⟩ (s11_unlike l dC dI kB kI kJ kZ kC kS H.size m0 ra y50_0 q_told q_kind q_salt q_from q_to q_goal g50_9 q_reach g50_15 p0 v50_loc6 p1 (hI50_0) (hq_told) (hq_salt) (hq_from) (hq_to) (hq_goal) (hI50_9) (h50_3) (b16) (h50_4) (hLT)) (cwV 3 hts gX11_look_X11_unlike rfl rfl rfl (by decide +kernel) ⟨Nat.le_of_ble_eq_true rfl, Nat.le_of_ble_eq_true rfl⟩) ⟨fun a U g mk q => by obtain ⟨q0, q1, qP, qE, qD⟩ := q; exact ⟨q0, q1, qP, kE_call qE, qD⟩, va_recv hK hP (ci := 11) (q0 := 0) rfl rfl, fun U hU hW => ⟨rfl, by rw [hU], by rw [hU]; exact hPc, kE_warm hW hE, hDc.weaken (fun _ _ _ _ => trivial)⟩⟩ rfl rfl hl.1 rfl (lv_room (Nat.le_of_ble_eq_true rfl)) dX11_look_62 ⟨Nat.le_of_ble_eq_true rfl, Nat.le_of_ble_eq_true rfl⟩) hS (fun q _ h => hFc q h) hFc (fun r17 u t H locs ht hvm w18 hB hz1 hk1 hS => ?_)
        obtain ⟨y19, f20, hq21, hq22, hq23, hq24, hq25, hq26, hP1, hD1⟩ := hB
        try dsimp only at w18
        obtain ⟨hPa, hDa⟩ := hJn (w1 := [(m0, .inr (11, oX11 ra y19)), (ra 2, .inl (kI, 8, .inl q_told)), (ra 3, .inl (kI, 24, .inl q_kind)), (ra 4, .inl (kI, 24, .inl q_salt)), (ra 8, .inl (kI, 40, .inl q_from)), (ra 9, .inl (kI, 40, .inl q_to)), (ra 10, .inl (kI, 6, .inl q_goal)), (ra 11, .inl (kI, 1019, .inl f20)), (ra 14, .inl (kI, 12, .inl q_reach)), (ra 26, .inl (kZ, 64, .inl g50_15))]) hk1 ht hP1 hD1
        clear hP hD hPc hDc hFc hJn hP1 hD1 hk1
        have hP : va_P (dC, dI) vwCl [(ra 6, .inl (kI, 24, .inl q_mute)), (ra 7, .inl (kI, 24, .inl q_late)), (ra 22, .inl (kI, 8, .inl q_notedPort)), (ra 23, .inl (kI, 8, .inl q_notedGoal)), (ra 24, .inl (kI, 8, .inl q_notedHop)), (ra 25, .inl (kI, 8, .inl q_notedAddress)), (m0, .inr (11, oX11 ra y19)), (ra 2, .inl (kI, 8, .inl q_told)), (ra 3, .inl (kI, 24, .inl q_kind)), (ra 4, .inl (kI, 24, .inl q_salt)), (ra 8, .inl (kI, 40, .inl q_from)), (ra 9, .inl (kI, 40, .inl q_to)), (ra 10, .inl (kI, 6, .inl q_goal)), (ra 11, .inl (kI, 1019, .inl f20)), (ra 14, .inl (kI, 12, .inl q_reach)), (ra 26, .inl (kZ, 64, .inl g50_15))] H := hPa
        have hD : va_D A [(ra 6, .inl (kI, 24, .inl q_mute)), (ra 7, .inl (kI, 24, .inl q_late)), (ra 22, .inl (kI, 8, .inl q_notedPort)), (ra 23, .inl (kI, 8, .inl q_notedGoal)), (ra 24, .inl (kI, 8, .inl q_notedHop)), (ra 25, .inl (kI, 8, .inl q_notedAddress)), (m0, .inr (11, oX11 ra y19)), (ra 2, .inl (kI, 8, .inl q_told)), (ra 3, .inl (kI, 24, .inl q_kind)), (ra 4, .inl (kI, 24, .inl q_salt)), (ra 8, .inl (kI, 40, .inl q_from)), (ra 9, .inl (kI, 40, .inl q_to)), (ra 10, .inl (kI, 6, .inl q_goal)), (ra 11, .inl (kI, 1019, .inl f20)), (ra 14, .inl (kI, 12, .inl q_reach)), (ra 26, .inl (kZ, 64, .inl g50_15))] := hDa
        clear hPa hDa
        refine W.widen (k := 0) (n := 0) (Nat.le_of_ble_eq_true rfl) (Nat.le_of_ble_eq_true rfl) ?_
        refine lv_istore (lv' := [(7, .int r17), (0, .ref m0), (1, .int p0), (2, .int p1), (3, .int p2), (4, .int v50_loc4), (5, .int v50_loc5), (6, .int v50_loc6)]) hx hb dX11_look_65 hl (Nat.le_of_ble_eq_true rfl) rfl (fun ls hl => ?_)
        refine lv_iload hx hb dX11_look_67 (lv_at hl 0 rfl) ?_
        refine lv_iload hx hb dX11_look_69 (lv_at hl 6 rfl) ?_
        refine lv_icmp_gt (tgt := 77) hx hb dX11_look_71 rfl (fun c27 => ?_) (fun c27 => ?_)
        · have b28 : iv 0 62 v50_loc5 := iv_ltL c27 h50_7 w18 (by decide) (by decide)
          have b29 : iv 1 63 r17 := iv_ltR c27 h50_7 w18 (by decide) (by decide)
          refine lv_iload hx hb dX11_look_77 (lv_at hl 7 rfl) ?_
          refine lv_istore (lv' := [(4, .int v50_loc6), (7, .int r17), (0, .ref m0), (1, .int p0), (2, .int p1), (3, .int p2), (5, .int v50_loc5), (6, .int v50_loc6)]) hx hb dX11_look_79 hl (Nat.le_of_ble_eq_true rfl) rfl (fun ls hl => ?_)
          refine lv_iload hx hb dX11_look_81 (lv_at hl 1 rfl) ?_
          refine lv_istore (lv' := [(5, .int r17), (4, .int v50_loc6), (7, .int r17), (0, .ref m0), (1, .int p0), (2, .int p1), (3, .int p2), (6, .int v50_loc6)]) hx hb dX11_look_83 hl (Nat.le_of_ble_eq_true rfl) rfl (fun ls hl => ?_)
          have hPD9 := cl_s (wc := [(m0, .inr (11, oX11 ra y19)), (ra 2, .inl (kI, 8, .inl q_told)), (ra 3, .inl (kI, 24, .inl q_kind)), (ra 4, .inl (kI, 24, .inl q_salt)), (ra 6, .inl (kI, 24, .inl q_mute)), (ra 7, .inl (kI, 24, .inl q_late)), (ra 8, .inl (kI, 40, .inl q_from)), (ra 9, .inl (kI, 40, .inl q_to)), (ra 10, .inl (kI, 6, .inl q_goal)), (ra 11, .inl (kI, 1019, .inl f20)), (ra 14, .inl (kI, 12, .inl q_reach)), (ra 22, .inl (kI, 8, .inl q_notedPort)), (ra 23, .inl (kI, 8, .inl q_notedGoal)), (ra 24, .inl (kI, 8, .inl q_notedHop)), (ra 25, .inl (kI, 8, .inl q_notedAddress)), (ra 26, .inl (kZ, 64, .inl g50_15))]) hP hD [6, 7, 8, 9, 0, 1, 10, 11, 12, 13, 14, 2, 3, 4, 5, 15] rfl (by decide +kernel)
          exact hJ85 y19 f20 v50_loc6 r17 r17 _ _ _ (hq21) (hq23) ((iv_w b16 (by decide) (by decide))) ((iv_w b29 (by decide) (by decide))) (b16) ((iv_w b29 (by decide) (by decide))) (hq22) ((show y19 1 = x0 1 from hq24.trans (htp_50))) ((show y19 10 = x0 10 from hq25.trans (hfp_50))) ((show y19 14 = x0 14 from hq26.trans (hirl_50))) (hPD9.1) (hPD9.2) hS (lv_sub hl [3, 4, 5, 6, 1, 0, 7, 2] rfl)
        · refine lv_goto (tgt := 85) hx hb dX11_look_74 rfl ?_
          have hPD9 := cl_s (wc := [(m0, .inr (11, oX11 ra y19)), (ra 2, .inl (kI, 8, .inl q_told)), (ra 3, .inl (kI, 24, .inl q_kind)), (ra 4, .inl (kI, 24, .inl q_salt)), (ra 6, .inl (kI, 24, .inl q_mute)), (ra 7, .inl (kI, 24, .inl q_late)), (ra 8, .inl (kI, 40, .inl q_from)), (ra 9, .inl (kI, 40, .inl q_to)), (ra 10, .inl (kI, 6, .inl q_goal)), (ra 11, .inl (kI, 1019, .inl f20)), (ra 14, .inl (kI, 12, .inl q_reach)), (ra 22, .inl (kI, 8, .inl q_notedPort)), (ra 23, .inl (kI, 8, .inl q_notedGoal)), (ra 24, .inl (kI, 8, .inl q_notedHop)), (ra 25, .inl (kI, 8, .inl q_notedAddress)), (ra 26, .inl (kZ, 64, .inl g50_15))]) hP hD [6, 7, 8, 9, 0, 1, 10, 11, 12, 13, 14, 2, 3, 4, 5, 15] rfl (by decide +kernel)
          exact hJ85 y19 f20 v50_loc4 v50_loc5 r17 _ _ _ (hq21) (hq23) (h50_6) (h50_7) (b16) (w18) (hq22) ((show y19 1 = x0 1 from hq24.trans (htp_50))) ((show y19 10 = x0 10 from hq25.trans (hfp_50))) ((show y19 14 = x0 14 from hq26.trans (hirl_50))) (hPD9.1) (hPD9.2) hS (lv_sub hl [1, 2, 3, 4, 5, 6, 7, 0] rfl)
  refine lv_aload_n hx hb dX11_look_0 rfl (lv_at hl 0 rfl) ?_
  refine lv_iconst (v := 0) hx hb dX11_look_1 ic_0 ?_
  refine va_put (D := (dC, dI)) (ci := 11) (v := .int 0) (ty := .int) (C := RX11) (T := TX11) (N := 61) hx hb hts hin11 tyX11 tyX11_ok nmX11 hown hK hP hD hS 0 rfl rfl 2 (by decide) hw_0 (fun _ h9 => h9) rfl (by decide +kernel) rfl rfl (Nat.le_of_ble_eq_true rfl) dX11_look_2 (fun H locs hPa hDa hS => ?_)
  clear hP hD
  have hP : va_P (dC, dI) vwCl [(m0, .inr (11, oX11 ra (upd x0 0 0))), (ra 2, .inl (kI, 8, .inl q_told)), (ra 3, .inl (kI, 24, .inl q_kind)), (ra 4, .inl (kI, 24, .inl q_salt)), (ra 6, .inl (kI, 24, .inl q_mute)), (ra 7, .inl (kI, 24, .inl q_late)), (ra 8, .inl (kI, 40, .inl q_from)), (ra 9, .inl (kI, 40, .inl q_to)), (ra 10, .inl (kI, 6, .inl q_goal)), (ra 11, .inl (kI, 1019, .inl q_now)), (ra 14, .inl (kI, 12, .inl q_reach)), (ra 22, .inl (kI, 8, .inl q_notedPort)), (ra 23, .inl (kI, 8, .inl q_notedGoal)), (ra 24, .inl (kI, 8, .inl q_notedHop)), (ra 25, .inl (kI, 8, .inl q_notedAddress)), (ra 26, .inl (kZ, 64, .inl q_fitting))] H := hPa
  have hD : va_D A [(m0, .inr (11, oX11 ra (upd x0 0 0))), (ra 2, .inl (kI, 8, .inl q_told)), (ra 3, .inl (kI, 24, .inl q_kind)), (ra 4, .inl (kI, 24, .inl q_salt)), (ra 6, .inl (kI, 24, .inl q_mute)), (ra 7, .inl (kI, 24, .inl q_late)), (ra 8, .inl (kI, 40, .inl q_from)), (ra 9, .inl (kI, 40, .inl q_to)), (ra 10, .inl (kI, 6, .inl q_goal)), (ra 11, .inl (kI, 1019, .inl q_now)), (ra 14, .inl (kI, 12, .inl q_reach)), (ra 22, .inl (kI, 8, .inl q_notedPort)), (ra 23, .inl (kI, 8, .inl q_notedGoal)), (ra 24, .inl (kI, 8, .inl q_notedHop)), (ra 25, .inl (kI, 8, .inl q_notedAddress)), (ra 26, .inl (kZ, 64, .inl q_fitting))] := hDa
  clear hPa hDa
  refine lv_aload_n hx hb dX11_look_5 rfl (lv_at hl 0 rfl) ?_
  refine lv_iload_n hx hb dX11_look_6 rfl (lv_at hl 1 rfl) ?_
  obtain ⟨hPc, hDc, hFc, hJn⟩ := cl_a (wc := [(m0, .inr (11, oX11 ra (upd x0 0 0))), (ra 2, .inl (kI, 8, .inl q_told))]) (wr := [(ra 3, .inl (kI, 24, .inl q_kind)), (ra 4, .inl (kI, 24, .inl q_salt)), (ra 6, .inl (kI, 24, .inl q_mute)), (ra 7, .inl (kI, 24, .inl q_late)), (ra 8, .inl (kI, 40, .inl q_from)), (ra 9, .inl (kI, 40, .inl q_to)), (ra 10, .inl (kI, 6, .inl q_goal)), (ra 11, .inl (kI, 1019, .inl q_now)), (ra 14, .inl (kI, 12, .inl q_reach)), (ra 22, .inl (kI, 8, .inl q_notedPort)), (ra 23, .inl (kI, 8, .inl q_notedGoal)), (ra 24, .inl (kI, 8, .inl q_notedHop)), (ra 25, .inl (kI, 8, .inl q_notedAddress)), (ra 26, .inl (kZ, 64, .inl q_fitting))]) hP hD hS hA [0, 1] [2, 3, 4, 5, 6, 7, 8, 9, 10, 11, 12, 13, 14, 15] rfl rfl (by decide +kernel)
  refine va_calli (va_runV (As := [.int p0]) (rest := []) ⟨hx, hb, hml, hown, hts⟩ (s11_isRouter l dC dI kB kI kJ kZ kC kS H.size m0 ra (upd x0 0 0) q_told p0 ((fI_u hX (k := 0) ((iv_w ivk_0 (by decide) (by decide))))) (hq_told)) (cwV 1 hts gX11_look_X11_isRouter rfl rfl rfl (by decide +kernel) ⟨Nat.le_of_ble_eq_true rfl, Nat.le_of_ble_eq_true rfl⟩) ⟨fun a U g mk q => by obtain ⟨q0, q1, qP, qE, qD⟩ := q; exact ⟨q0, q1, qP, kE_call qE, qD⟩, va_recv hK hP (ci := 11) (q0 := 0) rfl rfl, fun U hU hW => ⟨rfl, by rw [hU], by rw [hU]; exact hPc, kE_warm hW hE, hDc.weaken (fun _ _ _ _ => trivial)⟩⟩ rfl rfl hl.1 rfl (lv_room (Nat.le_of_ble_eq_true rfl)) dX11_look_7 ⟨Nat.le_of_ble_eq_true rfl, Nat.le_of_ble_eq_true rfl⟩) hS (fun q _ h => hFc q h) hFc (fun r30 u t H locs ht hvm w31 hB hz1 hk1 hS => ?_)
  obtain ⟨hP1, hD1⟩ := hB
  try dsimp only at w31
  obtain ⟨hPa, hDa⟩ := hJn (w1 := [(m0, .inr (11, oX11 ra (upd x0 0 0))), (ra 2, .inl (kI, 8, .inl q_told))]) hk1 ht hP1 hD1
  clear hP hD hPc hDc hFc hJn hP1 hD1 hk1
  have hP : va_P (dC, dI) vwCl [(ra 3, .inl (kI, 24, .inl q_kind)), (ra 4, .inl (kI, 24, .inl q_salt)), (ra 6, .inl (kI, 24, .inl q_mute)), (ra 7, .inl (kI, 24, .inl q_late)), (ra 8, .inl (kI, 40, .inl q_from)), (ra 9, .inl (kI, 40, .inl q_to)), (ra 10, .inl (kI, 6, .inl q_goal)), (ra 11, .inl (kI, 1019, .inl q_now)), (ra 14, .inl (kI, 12, .inl q_reach)), (ra 22, .inl (kI, 8, .inl q_notedPort)), (ra 23, .inl (kI, 8, .inl q_notedGoal)), (ra 24, .inl (kI, 8, .inl q_notedHop)), (ra 25, .inl (kI, 8, .inl q_notedAddress)), (ra 26, .inl (kZ, 64, .inl q_fitting)), (m0, .inr (11, oX11 ra (upd x0 0 0))), (ra 2, .inl (kI, 8, .inl q_told))] H := hPa
  have hD : va_D A [(ra 3, .inl (kI, 24, .inl q_kind)), (ra 4, .inl (kI, 24, .inl q_salt)), (ra 6, .inl (kI, 24, .inl q_mute)), (ra 7, .inl (kI, 24, .inl q_late)), (ra 8, .inl (kI, 40, .inl q_from)), (ra 9, .inl (kI, 40, .inl q_to)), (ra 10, .inl (kI, 6, .inl q_goal)), (ra 11, .inl (kI, 1019, .inl q_now)), (ra 14, .inl (kI, 12, .inl q_reach)), (ra 22, .inl (kI, 8, .inl q_notedPort)), (ra 23, .inl (kI, 8, .inl q_notedGoal)), (ra 24, .inl (kI, 8, .inl q_notedHop)), (ra 25, .inl (kI, 8, .inl q_notedAddress)), (ra 26, .inl (kZ, 64, .inl q_fitting)), (m0, .inr (11, oX11 ra (upd x0 0 0))), (ra 2, .inl (kI, 8, .inl q_told))] := hDa
  clear hPa hDa
  refine W.widen (k := 0) (n := 0) (Nat.le_of_ble_eq_true rfl) (Nat.le_of_ble_eq_true rfl) ?_
  refine lv_if_eq (tgt := 30) hx hb dX11_look_10 rfl (fun c32 => ?_) (fun c32 => ?_)
  · have b33 : iv 0 0 r30 := iv_eqL c32 ivk_0
    have hPD9 := cl_s (wc := [(m0, .inr (11, oX11 ra (upd x0 0 0))), (ra 2, .inl (kI, 8, .inl q_told)), (ra 3, .inl (kI, 24, .inl q_kind)), (ra 4, .inl (kI, 24, .inl q_salt)), (ra 6, .inl (kI, 24, .inl q_mute)), (ra 7, .inl (kI, 24, .inl q_late)), (ra 8, .inl (kI, 40, .inl q_from)), (ra 9, .inl (kI, 40, .inl q_to)), (ra 10, .inl (kI, 6, .inl q_goal)), (ra 11, .inl (kI, 1019, .inl q_now)), (ra 14, .inl (kI, 12, .inl q_reach)), (ra 22, .inl (kI, 8, .inl q_notedPort)), (ra 23, .inl (kI, 8, .inl q_notedGoal)), (ra 24, .inl (kI, 8, .inl q_notedHop)), (ra 25, .inl (kI, 8, .inl q_notedAddress)), (ra 26, .inl (kZ, 64, .inl q_fitting))]) hP hD [14, 15, 0, 1, 2, 3, 4, 5, 6, 7, 8, 9, 10, 11, 12, 13] rfl (by decide +kernel)
    exact hJ30 (upd x0 0 0) _ _ _ ((fI_u hX (k := 0) ((iv_w ivk_0 (by decide) (by decide))))) (ivk_0) (hfl11) ((show x0 1 = x0 1 from rfl)) ((show x0 10 = x0 10 from rfl)) ((show x0 14 = x0 14 from rfl)) (hPD9.1) (hPD9.2) hS (lv_sub hl [0, 1, 2, 3] rfl)
  · have b34 : iv 1 1 r30 := iv_neLo c32 w31.1 ivk_0 (by decide) (by decide)
    have b35 : iv 0 11 p0 := (w31.2).resolve_left (iv_ne b34 ivk_0 (by decide))
    refine lv_aload_n hx hb dX11_look_13 rfl (lv_at hl 0 rfl) ?_
    refine lv_iload_n hx hb dX11_look_14 rfl (lv_at hl 2 rfl) ?_
    obtain ⟨hPc, hDc, hFc, hJn⟩ := cl_a (wc := [(m0, .inr (11, oX11 ra (upd x0 0 0))), (ra 2, .inl (kI, 8, .inl q_told))]) (wr := [(ra 3, .inl (kI, 24, .inl q_kind)), (ra 4, .inl (kI, 24, .inl q_salt)), (ra 6, .inl (kI, 24, .inl q_mute)), (ra 7, .inl (kI, 24, .inl q_late)), (ra 8, .inl (kI, 40, .inl q_from)), (ra 9, .inl (kI, 40, .inl q_to)), (ra 10, .inl (kI, 6, .inl q_goal)), (ra 11, .inl (kI, 1019, .inl q_now)), (ra 14, .inl (kI, 12, .inl q_reach)), (ra 22, .inl (kI, 8, .inl q_notedPort)), (ra 23, .inl (kI, 8, .inl q_notedGoal)), (ra 24, .inl (kI, 8, .inl q_notedHop)), (ra 25, .inl (kI, 8, .inl q_notedAddress)), (ra 26, .inl (kZ, 64, .inl q_fitting))]) hP hD hS hA [14, 15] [0, 1, 2, 3, 4, 5, 6, 7, 8, 9, 10, 11, 12, 13] rfl rfl (by decide +kernel)
    refine va_calli (va_runV (As := [.int p1]) (rest := []) ⟨hx, hb, hml, hown, hts⟩ (s11_isGoal l dC dI kB kI kJ kZ kC kS H.size m0 ra (upd x0 0 0) q_told p1 ((fI_u hX (k := 0) ((iv_w ivk_0 (by decide) (by decide))))) (hq_told)) (cwV 1 hts gX11_look_X11_isGoal rfl rfl rfl (by decide +kernel) ⟨Nat.le_of_ble_eq_true rfl, Nat.le_of_ble_eq_true rfl⟩) ⟨fun a U g mk q => by obtain ⟨q0, q1, qP, qE, qD⟩ := q; exact ⟨q0, q1, qP, kE_call qE, qD⟩, va_recv hK hP (ci := 11) (q0 := 14) rfl rfl, fun U hU hW => ⟨rfl, by rw [hU], by rw [hU]; exact hPc, kE_warm hW hE, hDc.weaken (fun _ _ _ _ => trivial)⟩⟩ rfl rfl hl.1 rfl (lv_room (Nat.le_of_ble_eq_true rfl)) dX11_look_15 ⟨Nat.le_of_ble_eq_true rfl, Nat.le_of_ble_eq_true rfl⟩) hS (fun q _ h => hFc q h) hFc (fun r36 u t H locs ht hvm w37 hB hz1 hk1 hS => ?_)
    obtain ⟨hP1, hD1⟩ := hB
    try dsimp only at w37
    obtain ⟨hPa, hDa⟩ := hJn (w1 := [(m0, .inr (11, oX11 ra (upd x0 0 0))), (ra 2, .inl (kI, 8, .inl q_told))]) hk1 ht hP1 hD1
    clear hP hD hPc hDc hFc hJn hP1 hD1 hk1
    have hP : va_P (dC, dI) vwCl [(ra 3, .inl (kI, 24, .inl q_kind)), (ra 4, .inl (kI, 24, .inl q_salt)), (ra 6, .inl (kI, 24, .inl q_mute)), (ra 7, .inl (kI, 24, .inl q_late)), (ra 8, .inl (kI, 40, .inl q_from)), (ra 9, .inl (kI, 40, .inl q_to)), (ra 10, .inl (kI, 6, .inl q_goal)), (ra 11, .inl (kI, 1019, .inl q_now)), (ra 14, .inl (kI, 12, .inl q_reach)), (ra 22, .inl (kI, 8, .inl q_notedPort)), (ra 23, .inl (kI, 8, .inl q_notedGoal)), (ra 24, .inl (kI, 8, .inl q_notedHop)), (ra 25, .inl (kI, 8, .inl q_notedAddress)), (ra 26, .inl (kZ, 64, .inl q_fitting)), (m0, .inr (11, oX11 ra (upd x0 0 0))), (ra 2, .inl (kI, 8, .inl q_told))] H := hPa
    have hD : va_D A [(ra 3, .inl (kI, 24, .inl q_kind)), (ra 4, .inl (kI, 24, .inl q_salt)), (ra 6, .inl (kI, 24, .inl q_mute)), (ra 7, .inl (kI, 24, .inl q_late)), (ra 8, .inl (kI, 40, .inl q_from)), (ra 9, .inl (kI, 40, .inl q_to)), (ra 10, .inl (kI, 6, .inl q_goal)), (ra 11, .inl (kI, 1019, .inl q_now)), (ra 14, .inl (kI, 12, .inl q_reach)), (ra 22, .inl (kI, 8, .inl q_notedPort)), (ra 23, .inl (kI, 8, .inl q_notedGoal)), (ra 24, .inl (kI, 8, .inl q_notedHop)), (ra 25, .inl (kI, 8, .inl q_notedAddress)), (ra 26, .inl (kZ, 64, .inl q_fitting)), (m0, .inr (11, oX11 ra (upd x0 0 0))), (ra 2, .inl (kI, 8, .inl q_told))] := hDa
    clear hPa hDa
    refine W.widen (k := 0) (n := 0) (Nat.le_of_ble_eq_true rfl) (Nat.le_of_ble_eq_true rfl) ?_
    refine lv_if_eq (tgt := 30) hx hb dX11_look_18 rfl (fun c38 => ?_) (fun c38 => ?_)
    · have b39 : iv 0 0 r36 := iv_eqL c38 ivk_0
      have hPD9 := cl_s (wc := [(m0, .inr (11, oX11 ra (upd x0 0 0))), (ra 2, .inl (kI, 8, .inl q_told)), (ra 3, .inl (kI, 24, .inl q_kind)), (ra 4, .inl (kI, 24, .inl q_salt)), (ra 6, .inl (kI, 24, .inl q_mute)), (ra 7, .inl (kI, 24, .inl q_late)), (ra 8, .inl (kI, 40, .inl q_from)), (ra 9, .inl (kI, 40, .inl q_to)), (ra 10, .inl (kI, 6, .inl q_goal)), (ra 11, .inl (kI, 1019, .inl q_now)), (ra 14, .inl (kI, 12, .inl q_reach)), (ra 22, .inl (kI, 8, .inl q_notedPort)), (ra 23, .inl (kI, 8, .inl q_notedGoal)), (ra 24, .inl (kI, 8, .inl q_notedHop)), (ra 25, .inl (kI, 8, .inl q_notedAddress)), (ra 26, .inl (kZ, 64, .inl q_fitting))]) hP hD [14, 15, 0, 1, 2, 3, 4, 5, 6, 7, 8, 9, 10, 11, 12, 13] rfl (by decide +kernel)
      exact hJ30 (upd x0 0 0) _ _ _ ((fI_u hX (k := 0) ((iv_w ivk_0 (by decide) (by decide))))) (ivk_0) (hfl11) ((show x0 1 = x0 1 from rfl)) ((show x0 10 = x0 10 from rfl)) ((show x0 14 = x0 14 from rfl)) (hPD9.1) (hPD9.2) hS (lv_sub hl [0, 1, 2, 3] rfl)
    · have b40 : iv 1 1 r36 := iv_neLo c38 w37.1 ivk_0 (by decide) (by decide)
      have b41 : iv 0 2 p1 := (w37.2).resolve_left (iv_ne b40 ivk_0 (by decide))
      refine lv_iload_n hx hb dX11_look_21 rfl (lv_at hl 3 rfl) ?_
      refine lv_iconst (v := 0) hx hb dX11_look_22 ic_0 ?_
      refine lv_iconst (v := 1) hx hb dX11_look_23 ic_1 ?_
      obtain ⟨hPc, hDc, hFc, hJn⟩ := cl_a (wc := []) (wr := [(ra 3, .inl (kI, 24, .inl q_kind)), (ra 4, .inl (kI, 24, .inl q_salt)), (ra 6, .inl (kI, 24, .inl q_mute)), (ra 7, .inl (kI, 24, .inl q_late)), (ra 8, .inl (kI, 40, .inl q_from)), (ra 9, .inl (kI, 40, .inl q_to)), (ra 10, .inl (kI, 6, .inl q_goal)), (ra 11, .inl (kI, 1019, .inl q_now)), (ra 14, .inl (kI, 12, .inl q_reach)), (ra 22, .inl (kI, 8, .inl q_notedPort)), (ra 23, .inl (kI, 8, .inl q_notedGoal)), (ra 24, .inl (kI, 8, .inl q_notedHop)), (ra 25, .inl (kI, 8, .inl q_notedAddress)), (ra 26, .inl (kZ, 64, .inl q_fitting)), (m0, .inr (11, oX11 ra (upd x0 0 0))), (ra 2, .inl (kI, 8, .inl q_told))]) hP hD hS hA [] [0, 1, 2, 3, 4, 5, 6, 7, 8, 9, 10, 11, 12, 13, 14, 15] rfl rfl (by decide +kernel)
      refine va_calli (va_runS (As := [.int p2, .int 0, .int 1]) (rest := []) ⟨hx, hb, hml, hown, hts⟩ (s11_isIn l dC dI kB kI kJ kZ kC kS H.size p2 0 1) (va_cwS 3 hts gX11_look_X11_isIn rfl rfl rfl (by decide +kernel) ⟨Nat.le_of_ble_eq_true rfl, Nat.le_of_ble_eq_true rfl⟩) ⟨fun a U g mk q => by obtain ⟨q0, q1, qP, qE, qD⟩ := q; exact ⟨q0, q1, qP, kE_call qE, qD⟩, fun U hU hW => ⟨rfl, by rw [hU], by rw [hU]; exact hPc, kE_warm hW hE, hDc.weaken (fun _ _ _ _ => trivial)⟩⟩ rfl rfl hl.1 rfl (lv_room (Nat.le_of_ble_eq_true rfl)) dX11_look_24 ⟨Nat.le_of_ble_eq_true rfl, Nat.le_of_ble_eq_true rfl⟩) hS (fun q _ h => hFc q h) hFc (fun r42 u t H locs ht hvm w43 hB hz1 hk1 hS => ?_)
      obtain ⟨hP1, hD1⟩ := hB
      try dsimp only at w43
      obtain ⟨hPa, hDa⟩ := hJn (w1 := []) hk1 ht hP1 hD1
      clear hP hD hPc hDc hFc hJn hP1 hD1 hk1
      have hP : va_P (dC, dI) vwCl [(ra 3, .inl (kI, 24, .inl q_kind)), (ra 4, .inl (kI, 24, .inl q_salt)), (ra 6, .inl (kI, 24, .inl q_mute)), (ra 7, .inl (kI, 24, .inl q_late)), (ra 8, .inl (kI, 40, .inl q_from)), (ra 9, .inl (kI, 40, .inl q_to)), (ra 10, .inl (kI, 6, .inl q_goal)), (ra 11, .inl (kI, 1019, .inl q_now)), (ra 14, .inl (kI, 12, .inl q_reach)), (ra 22, .inl (kI, 8, .inl q_notedPort)), (ra 23, .inl (kI, 8, .inl q_notedGoal)), (ra 24, .inl (kI, 8, .inl q_notedHop)), (ra 25, .inl (kI, 8, .inl q_notedAddress)), (ra 26, .inl (kZ, 64, .inl q_fitting)), (m0, .inr (11, oX11 ra (upd x0 0 0))), (ra 2, .inl (kI, 8, .inl q_told))] H := hPa
      have hD : va_D A [(ra 3, .inl (kI, 24, .inl q_kind)), (ra 4, .inl (kI, 24, .inl q_salt)), (ra 6, .inl (kI, 24, .inl q_mute)), (ra 7, .inl (kI, 24, .inl q_late)), (ra 8, .inl (kI, 40, .inl q_from)), (ra 9, .inl (kI, 40, .inl q_to)), (ra 10, .inl (kI, 6, .inl q_goal)), (ra 11, .inl (kI, 1019, .inl q_now)), (ra 14, .inl (kI, 12, .inl q_reach)), (ra 22, .inl (kI, 8, .inl q_notedPort)), (ra 23, .inl (kI, 8, .inl q_notedGoal)), (ra 24, .inl (kI, 8, .inl q_notedHop)), (ra 25, .inl (kI, 8, .inl q_notedAddress)), (ra 26, .inl (kZ, 64, .inl q_fitting)), (m0, .inr (11, oX11 ra (upd x0 0 0))), (ra 2, .inl (kI, 8, .inl q_told))] := hDa
      clear hPa hDa
      refine W.widen (k := 0) (n := 0) (Nat.le_of_ble_eq_true rfl) (Nat.le_of_ble_eq_true rfl) ?_
      refine lv_if_ne (tgt := 36) hx hb dX11_look_27 rfl (fun c44 => ?_) (fun c44 => ?_)
      · have b45 : iv 1 1 r42 := iv_neLo c44 w43.1 ivk_0 (by decide) (by decide)
        have hr46 := (w43.2).resolve_left (iv_ne b45 ivk_0 (by decide))
        have b47 : iv 0 1 p2 := iv_cap (in_iv hr46 ivk_0 ivk_1) (iv_t p2) (by decide) (by decide)
        refine lv_aload_n hx hb dX11_look_36 rfl (lv_at hl 0 rfl) ?_
        refine lv_iload_n hx hb dX11_look_37 rfl (lv_at hl 1 rfl) ?_
        obtain ⟨hPc, hDc, hFc, hJn⟩ := cl_a (wc := [(m0, .inr (11, oX11 ra (upd x0 0 0))), (ra 2, .inl (kI, 8, .inl q_told)), (ra 3, .inl (kI, 24, .inl q_kind)), (ra 4, .inl (kI, 24, .inl q_salt)), (ra 6, .inl (kI, 24, .inl q_mute)), (ra 7, .inl (kI, 24, .inl q_late)), (ra 8, .inl (kI, 40, .inl q_from)), (ra 9, .inl (kI, 40, .inl q_to)), (ra 10, .inl (kI, 6, .inl q_goal)), (ra 11, .inl (kI, 1019, .inl q_now)), (ra 14, .inl (kI, 12, .inl q_reach)), (ra 22, .inl (kI, 8, .inl q_notedPort)), (ra 23, .inl (kI, 8, .inl q_notedGoal)), (ra 24, .inl (kI, 8, .inl q_notedHop)), (ra 25, .inl (kI, 8, .inl q_notedAddress)), (ra 26, .inl (kZ, 64, .inl q_fitting))]) (wr := []) hP hD hS hA [14, 15, 0, 1, 2, 3, 4, 5, 6, 7, 8, 9, 10, 11, 12, 13] [] rfl rfl (by decide +kernel)
        refine va_callv (va_runV (As := [.int p0]) (rest := []) ⟨hx, hb, hml, hown, hts⟩ (s11_tellFits l dC dI kB kI kJ kZ kC kS H.size m0 ra (upd x0 0 0) q_told q_kind q_salt q_mute q_late q_from q_to q_goal q_now q_reach q_notedPort q_notedGoal q_notedHop q_notedAddress q_fitting p0 ((fI_u hX (k := 0) ((iv_w ivk_0 (by decide) (by decide))))) (hq_told) (hq_salt) (hq_from) (hq_to) (hq_goal) (hq_now) (hq_notedPort) (hq_notedGoal) (b35) (hLT)) (cwV 1 hts gX11_look_X11_tellFits rfl rfl rfl (by decide +kernel) ⟨Nat.le_of_ble_eq_true rfl, Nat.le_of_ble_eq_true rfl⟩) ⟨fun a U g mk q => by obtain ⟨q0, q1, qP, qE, qD⟩ := q; exact ⟨q0, q1, qP, kE_call qE, qD⟩, va_recv hK hP (ci := 11) (q0 := 14) rfl rfl, fun U hU hW => ⟨rfl, by rw [hU], by rw [hU]; exact hPc, kE_warm hW hE, hDc.weaken (fun _ _ _ _ => trivial)⟩⟩ rfl rfl hl.1 rfl (lv_room (Nat.le_of_ble_eq_true rfl)) dX11_look_38 ⟨Nat.le_of_ble_eq_true rfl, Nat.le_of_ble_eq_true rfl⟩) hS (fun q _ h => hFc q h) hFc (fun u t H locs ht hvm w49 hB hz1 hk1 hS => ?_)
        obtain ⟨y50, f51, f52, hq53, hq54, hq55, hq56, hq57, hq58, hP1, hD1⟩ := hB
        try dsimp only at w49
        obtain ⟨hPa, hDa⟩ := hJn (w1 := [(m0, .inr (11, oX11 ra y50)), (ra 2, .inl (kI, 8, .inl q_told)), (ra 3, .inl (kI, 24, .inl q_kind)), (ra 4, .inl (kI, 24, .inl q_salt)), (ra 6, .inl (kI, 24, .inl q_mute)), (ra 7, .inl (kI, 24, .inl q_late)), (ra 8, .inl (kI, 40, .inl q_from)), (ra 9, .inl (kI, 40, .inl q_to)), (ra 10, .inl (kI, 6, .inl q_goal)), (ra 11, .inl (kI, 1019, .inl f51)), (ra 14, .inl (kI, 12, .inl q_reach)), (ra 22, .inl (kI, 8, .inl q_notedPort)), (ra 23, .inl (kI, 8, .inl q_notedGoal)), (ra 24, .inl (kI, 8, .inl q_notedHop)), (ra 25, .inl (kI, 8, .inl q_notedAddress)), (ra 26, .inl (kZ, 64, .inl f52))]) hk1 ht hP1 hD1
        clear hP hD hPc hDc hFc hJn hP1 hD1 hk1
        have hP : va_P (dC, dI) vwCl [(m0, .inr (11, oX11 ra y50)), (ra 2, .inl (kI, 8, .inl q_told)), (ra 3, .inl (kI, 24, .inl q_kind)), (ra 4, .inl (kI, 24, .inl q_salt)), (ra 6, .inl (kI, 24, .inl q_mute)), (ra 7, .inl (kI, 24, .inl q_late)), (ra 8, .inl (kI, 40, .inl q_from)), (ra 9, .inl (kI, 40, .inl q_to)), (ra 10, .inl (kI, 6, .inl q_goal)), (ra 11, .inl (kI, 1019, .inl f51)), (ra 14, .inl (kI, 12, .inl q_reach)), (ra 22, .inl (kI, 8, .inl q_notedPort)), (ra 23, .inl (kI, 8, .inl q_notedGoal)), (ra 24, .inl (kI, 8, .inl q_notedHop)), (ra 25, .inl (kI, 8, .inl q_notedAddress)), (ra 26, .inl (kZ, 64, .inl f52))] H := hPa
        have hD : va_D A [(m0, .inr (11, oX11 ra y50)), (ra 2, .inl (kI, 8, .inl q_told)), (ra 3, .inl (kI, 24, .inl q_kind)), (ra 4, .inl (kI, 24, .inl q_salt)), (ra 6, .inl (kI, 24, .inl q_mute)), (ra 7, .inl (kI, 24, .inl q_late)), (ra 8, .inl (kI, 40, .inl q_from)), (ra 9, .inl (kI, 40, .inl q_to)), (ra 10, .inl (kI, 6, .inl q_goal)), (ra 11, .inl (kI, 1019, .inl f51)), (ra 14, .inl (kI, 12, .inl q_reach)), (ra 22, .inl (kI, 8, .inl q_notedPort)), (ra 23, .inl (kI, 8, .inl q_notedGoal)), (ra 24, .inl (kI, 8, .inl q_notedHop)), (ra 25, .inl (kI, 8, .inl q_notedAddress)), (ra 26, .inl (kZ, 64, .inl f52))] := hDa
        clear hPa hDa
        refine W.widen (k := 0) (n := 0) (Nat.le_of_ble_eq_true rfl) (Nat.le_of_ble_eq_true rfl) ?_
        refine lv_iconst (v := (-1)) hx hb dX11_look_41 ic_m1 ?_
        refine lv_istore (lv' := [(4, .int (-1)), (0, .ref m0), (1, .int p0), (2, .int p1), (3, .int p2)]) hx hb dX11_look_42 hl (Nat.le_of_ble_eq_true rfl) rfl (fun ls hl => ?_)
        refine lv_iconst (v := 0) hx hb dX11_look_44 ic_0 ?_
        refine lv_istore (lv' := [(5, .int 0), (4, .int (-1)), (0, .ref m0), (1, .int p0), (2, .int p1), (3, .int p2)]) hx hb dX11_look_45 hl (Nat.le_of_ble_eq_true rfl) rfl (fun ls hl => ?_)
        refine lv_iconst (v := 0) hx hb dX11_look_47 ic_0 ?_
        refine lv_istore (lv' := [(6, .int 0), (5, .int 0), (4, .int (-1)), (0, .ref m0), (1, .int p0), (2, .int p1), (3, .int p2)]) hx hb dX11_look_48 hl (Nat.le_of_ble_eq_true rfl) rfl (fun ls hl => ?_)
        exact hJ50 _ y50 f51 f52 (-1) 0 0 _ _ _ (Nat.lt_succ_self _) (hq53) (hq55) (b35) (b41) (b47) ((iv_w ivk_m1 (by decide) (by decide))) ((iv_w ivk_0 (by decide) (by decide))) ((iv_w ivk_0 (by decide) (by decide))) (hq54) ((show y50 1 = x0 1 from hq56)) ((show y50 10 = x0 10 from hq57)) ((show y50 14 = x0 14 from hq58)) (hP) (hD) hS (lv_sub hl [3, 4, 5, 6, 2, 1, 0] rfl)
      · have b59 : iv 0 0 r42 := iv_eqL c44 ivk_0
        have hPD9 := cl_s (wc := [(m0, .inr (11, oX11 ra (upd x0 0 0))), (ra 2, .inl (kI, 8, .inl q_told)), (ra 3, .inl (kI, 24, .inl q_kind)), (ra 4, .inl (kI, 24, .inl q_salt)), (ra 6, .inl (kI, 24, .inl q_mute)), (ra 7, .inl (kI, 24, .inl q_late)), (ra 8, .inl (kI, 40, .inl q_from)), (ra 9, .inl (kI, 40, .inl q_to)), (ra 10, .inl (kI, 6, .inl q_goal)), (ra 11, .inl (kI, 1019, .inl q_now)), (ra 14, .inl (kI, 12, .inl q_reach)), (ra 22, .inl (kI, 8, .inl q_notedPort)), (ra 23, .inl (kI, 8, .inl q_notedGoal)), (ra 24, .inl (kI, 8, .inl q_notedHop)), (ra 25, .inl (kI, 8, .inl q_notedAddress)), (ra 26, .inl (kZ, 64, .inl q_fitting))]) hP hD [14, 15, 0, 1, 2, 3, 4, 5, 6, 7, 8, 9, 10, 11, 12, 13] rfl (by decide +kernel)
        exact hJ30 (upd x0 0 0) _ _ _ ((fI_u hX (k := 0) ((iv_w ivk_0 (by decide) (by decide))))) (ivk_0) (hfl11) ((show x0 1 = x0 1 from rfl)) ((show x0 10 = x0 10 from rfl)) ((show x0 14 = x0 14 from rfl)) (hPD9.1) (hPD9.2) hS (lv_sub hl [0, 1, 2, 3] rfl)
def rm_s11_years : Room := { frames := 7, cells := 0, slots := 0, locals := 181 }
set_option maxHeartbeats 4000000 in
set_option maxRecDepth 100000 in
theorem s11_years (l : Launch) (dC : Nat → ClassId) (dI : Nat → Nat → Nat) (kB kI kJ kZ kC kS : ClassId) (sz : Nat) (m0 : Nat) (ra : Nat → Nat) (x0 : Nat → Int32) (q_told : Nat → Int32) (q_kind : Nat → Int32) (q_salt : Nat → Int32) (q_pace : Nat → Int32) (q_mute : Nat → Int32) (q_late : Nat → Int32) (q_from : Nat → Int32) (q_to : Nat → Int32) (q_goal : Nat → Int32) (q_now : Nat → Int32) (q_reach : Nat → Int32) (q_met : Nat → Int64) (q_rowThen : Nat → Int32) (p0 : Int32) (p1 : Int32) (p2 : Int32) (hX : fI lX11 hX11 x0) (hq_told : fI lTold hTold q_told) (hq_salt : fI (fun _ => 0) (fun _ => 15) q_salt) (hq_from : fI (fun _ => 0) (fun _ => 11) q_from) (hq_to : fI (fun _ => 0) (fun _ => 11) q_to) (hq_goal : fI (fun _ => 0) (fun _ => 11) q_goal) (hq_now : fI lNow hNow q_now) (hq_rowThen : fI lNow hNow q_rowThen) (hLT : ∀ j : Nat, (j : Int) < (q_told 1).toInt → (q_from j).toInt < (q_to j).toInt) (hfl14 : iv 0 0 (x0 14)) : Met l yX11_years wsX11_years rm_s11_years (va_Pc [.ref m0, .int p0, .int p1, .int p2] (fun U => U.heap.size = sz ∧ va_P (dC, dI) vwCl [(m0, .inr (11, oX11 ra x0)), (ra 2, .inl (kI, 8, .inl q_told)), (ra 3, .inl (kI, 24, .inl q_kind)), (ra 4, .inl (kI, 24, .inl q_salt)), (ra 5, .inl (kI, 24, .inl q_pace)), (ra 6, .inl (kI, 24, .inl q_mute)), (ra 7, .inl (kI, 24, .inl q_late)), (ra 8, .inl (kI, 40, .inl q_from)), (ra 9, .inl (kI, 40, .inl q_to)), (ra 10, .inl (kI, 6, .inl q_goal)), (ra 11, .inl (kI, 1019, .inl q_now)), (ra 14, .inl (kI, 12, .inl q_reach)), (ra 15, .inl (kJ, 24, .inr (.inl q_met))), (ra 27, .inl (kI, 1019, .inl q_rowThen))] U.heap ∧ kE dC dI kB kI kJ kZ kC kS U ∧ va_D (fun _ => True) [(m0, .inr (11, oX11 ra x0)), (ra 2, .inl (kI, 8, .inl q_told)), (ra 3, .inl (kI, 24, .inl q_kind)), (ra 4, .inl (kI, 24, .inl q_salt)), (ra 5, .inl (kI, 24, .inl q_pace)), (ra 6, .inl (kI, 24, .inl q_mute)), (ra 7, .inl (kI, 24, .inl q_late)), (ra 8, .inl (kI, 40, .inl q_from)), (ra 9, .inl (kI, 40, .inl q_to)), (ra 10, .inl (kI, 6, .inl q_goal)), (ra 11, .inl (kI, 1019, .inl q_now)), (ra 14, .inl (kI, 12, .inl q_reach)), (ra 15, .inl (kJ, 24, .inr (.inl q_met))), (ra 27, .inl (kI, 1019, .inl q_rowThen))])) (va_Qi (fun (r : Int32) (_ : Unit) => True) (fun _ t => ∃ (x0' : Nat → Int32) (q_now' : Nat → Int32) (q_met' : Nat → Int64) (q_rowThen' : Nat → Int32), fI lX11 hX11 x0' ∧ iv 0 0 (x0' 14) ∧ fI lNow hNow q_now' ∧ fI lNow hNow q_rowThen' ∧ (x0' 1 = x0 1) ∧ (x0' 10 = x0 10) ∧ (x0' 11 = x0 11) ∧ va_P (dC, dI) vwCl [(m0, .inr (11, oX11 ra x0')), (ra 2, .inl (kI, 8, .inl q_told)), (ra 3, .inl (kI, 24, .inl q_kind)), (ra 4, .inl (kI, 24, .inl q_salt)), (ra 5, .inl (kI, 24, .inl q_pace)), (ra 6, .inl (kI, 24, .inl q_mute)), (ra 7, .inl (kI, 24, .inl q_late)), (ra 8, .inl (kI, 40, .inl q_from)), (ra 9, .inl (kI, 40, .inl q_to)), (ra 10, .inl (kI, 6, .inl q_goal)), (ra 11, .inl (kI, 1019, .inl q_now')), (ra 14, .inl (kI, 12, .inl q_reach)), (ra 15, .inl (kJ, 24, .inr (.inl q_met'))), (ra 27, .inl (kI, 1019, .inl q_rowThen'))] t.heap ∧ va_D (va_A [(m0, .inr (11, oX11 ra x0)), (ra 2, .inl (kI, 8, .inl q_told)), (ra 3, .inl (kI, 24, .inl q_kind)), (ra 4, .inl (kI, 24, .inl q_salt)), (ra 5, .inl (kI, 24, .inl q_pace)), (ra 6, .inl (kI, 24, .inl q_mute)), (ra 7, .inl (kI, 24, .inl q_late)), (ra 8, .inl (kI, 40, .inl q_from)), (ra 9, .inl (kI, 40, .inl q_to)), (ra 10, .inl (kI, 6, .inl q_goal)), (ra 11, .inl (kI, 1019, .inl q_now)), (ra 14, .inl (kI, 12, .inl q_reach)), (ra 15, .inl (kJ, 24, .inr (.inl q_met))), (ra 27, .inl (kI, 1019, .inl q_rowThen))] sz) [(m0, .inr (11, oX11 ra x0')), (ra 2, .inl (kI, 8, .inl q_told)), (ra 3, .inl (kI, 24, .inl q_kind)), (ra 4, .inl (kI, 24, .inl q_salt)), (ra 5, .inl (kI, 24, .inl q_pace)), (ra 6, .inl (kI, 24, .inl q_mute)), (ra 7, .inl (kI, 24, .inl q_late)), (ra 8, .inl (kI, 40, .inl q_from)), (ra 9, .inl (kI, 40, .inl q_to)), (ra 10, .inl (kI, 6, .inl q_goal)), (ra 11, .inl (kI, 1019, .inl q_now')), (ra 14, .inl (kI, 12, .inl q_reach)), (ra 15, .inl (kJ, 24, .inr (.inl q_met'))), (ra 27, .inl (kI, 1019, .inl q_rowThen'))]) (va_A [(m0, .inr (11, oX11 ra x0)), (ra 2, .inl (kI, 8, .inl q_told)), (ra 3, .inl (kI, 24, .inl q_kind)), (ra 4, .inl (kI, 24, .inl q_salt)), (ra 5, .inl (kI, 24, .inl q_pace)), (ra 6, .inl (kI, 24, .inl q_mute)), (ra 7, .inl (kI, 24, .inl q_late)), (ra 8, .inl (kI, 40, .inl q_from)), (ra 9, .inl (kI, 40, .inl q_to)), (ra 10, .inl (kI, 6, .inl q_goal)), (ra 11, .inl (kI, 1019, .inl q_now)), (ra 14, .inl (kI, 12, .inl q_reach)), (ra 15, .inl (kJ, 24, .inr (.inl q_met))), (ra 27, .inl (kI, 1019, .inl q_rowThen))] sz)) 0 0 (va_A [(m0, .inr (11, oX11 ra x0)), (ra 2, .inl (kI, 8, .inl q_told)), (ra 3, .inl (kI, 24, .inl q_kind)), (ra 4, .inl (kI, 24, .inl q_salt)), (ra 5, .inl (kI, 24, .inl q_pace)), (ra 6, .inl (kI, 24, .inl q_mute)), (ra 7, .inl (kI, 24, .inl q_late)), (ra 8, .inl (kI, 40, .inl q_from)), (ra 9, .inl (kI, 40, .inl q_to)), (ra 10, .inl (kI, 6, .inl q_goal)), (ra 11, .inl (kI, 1019, .inl q_now)), (ra 14, .inl (kI, 12, .inl q_reach)), (ra 15, .inl (kJ, 24, .inr (.inl q_met))), (ra 27, .inl (kI, 1019, .inl q_rowThen))] sz) := by
  refine Met.ofW (cc := cX11_years) (maxL := 7) (ret := (some .int)) (by decide) rfl ?_
  intro p e s m args0 below meth c s₁ B hml hv
  obtain ⟨hargs, hsz, hP, hE, hD0⟩ := hv
  have hx := B.exec
  have hb := B.bytes
  have hr := B.returns
  have hts := atoms_spec (ws := wsX11_years) B.pre
  have hown : s.vm.findClass RX11 = some m.cls := findClass_of_methodNamed B.named
  have hlocks := B.notSynchronized
  have hK := hE.1
  have hin11 : ∀ w ∈ wsX110, w ∈ wsX11_years := fun _ h9 => List.mem_cons_of_mem _ (List.mem_append_right _ h9)
  have hw_0 := hts (.fieldLink RX11 60 "PathProberModel" "now" "[I") (List.mem_of_getElem? (i := 3) rfl)
  have hw_1 := hts (.fieldLink RX11 118 "PathProberModel" "rowThen" "[I") (List.mem_of_getElem? (i := 2) rfl)
  have hw_2 := hts (.fieldLink RX11 142 "PathProberModel" "code" "I") (List.mem_of_getElem? (i := 1) rfl)
  have hw_3 := hts (.fieldLink RX11 460 "PathProberModel" "seedNow" "I") (List.mem_of_getElem? (i := 4) rfl)
  subst hsz
  have hD := hD0.self (sz := s.heap.size)
  generalize hAe : va_A [(m0, .inr (11, oX11 ra x0)), (ra 2, .inl (kI, 8, .inl q_told)), (ra 3, .inl (kI, 24, .inl q_kind)), (ra 4, .inl (kI, 24, .inl q_salt)), (ra 5, .inl (kI, 24, .inl q_pace)), (ra 6, .inl (kI, 24, .inl q_mute)), (ra 7, .inl (kI, 24, .inl q_late)), (ra 8, .inl (kI, 40, .inl q_from)), (ra 9, .inl (kI, 40, .inl q_to)), (ra 10, .inl (kI, 6, .inl q_goal)), (ra 11, .inl (kI, 1019, .inl q_now)), (ra 14, .inl (kI, 12, .inl q_reach)), (ra 15, .inl (kJ, 24, .inr (.inl q_met))), (ra 27, .inl (kI, 1019, .inl q_rowThen))] s.heap.size = A at hD ⊢
  have hA : ∀ q : Nat, s.heap.size ≤ q → A q := fun q h => by rw [← hAe]; exact Or.inr h
  have hS : va_S A s.heap s.heap [] := va_S.rf
  have hP : va_P (dC, dI) vwCl [(m0, .inr (11, oX11 ra x0)), (ra 2, .inl (kI, 8, .inl q_told)), (ra 3, .inl (kI, 24, .inl q_kind)), (ra 4, .inl (kI, 24, .inl q_salt)), (ra 5, .inl (kI, 24, .inl q_pace)), (ra 6, .inl (kI, 24, .inl q_mute)), (ra 7, .inl (kI, 24, .inl q_late)), (ra 8, .inl (kI, 40, .inl q_from)), (ra 9, .inl (kI, 40, .inl q_to)), (ra 10, .inl (kI, 6, .inl q_goal)), (ra 11, .inl (kI, 1019, .inl q_now)), (ra 14, .inl (kI, 12, .inl q_reach)), (ra 15, .inl (kJ, 24, .inr (.inl q_met))), (ra 27, .inl (kI, 1019, .inl q_rowThen))] s.heap := hP
  have hl := lv_entry ([.ref m0, .int p0, .int p1, .int p2]) (n := 7) (Nat.le_of_ble_eq_true rfl)
  have hla : entryFrame m args0 7 = entryFrame m ([.ref m0, .int p0, .int p1, .int p2] : List Value).toArray 7 := by rw [hargs]
  rw [hla, lg_entry_eq]
  generalize (lg_sl ([.ref m0, .int p0, .int p1, .int p2]) ++ List.replicate (7 - (lg_sl ([.ref m0, .int p0, .int p1, .int p2])).length) Slot.unset).toArray = ls at hl ⊢
  have hl : lv_has ls 7 [(0, .ref m0), (1, .int p0), (2, .int p1), (3, .int p2)] := hl
  have hJ141 : ∀ (y141_0 : Nat → Int32) (g141_10 : Nat → Int32) (g141_12 : Nat → Int64) (g141_13 : Nat → Int32) (v141_loc4 : Int32) (v141_loc5 : Int32) (v141_loc6 : Int32) (v141_stk0 : Int32) (H : Heap) (locs : List Loc) (ls : Array Slot), fI lX11 hX11 y141_0 → fI lNow hNow g141_10 → fI lNow hNow g141_13 → iv 0 40 p1 → iv 0 2 p2 → iv 0 12 v141_loc6 → iv 0 0 (y141_0 14) → (y141_0 1 = x0 1) → (y141_0 10 = x0 10) → (y141_0 11 = x0 11) → va_P (dC, dI) vwCl [(m0, .inr (11, oX11 ra y141_0)), (ra 2, .inl (kI, 8, .inl q_told)), (ra 3, .inl (kI, 24, .inl q_kind)), (ra 4, .inl (kI, 24, .inl q_salt)), (ra 5, .inl (kI, 24, .inl q_pace)), (ra 6, .inl (kI, 24, .inl q_mute)), (ra 7, .inl (kI, 24, .inl q_late)), (ra 8, .inl (kI, 40, .inl q_from)), (ra 9, .inl (kI, 40, .inl q_to)), (ra 10, .inl (kI, 6, .inl q_goal)), (ra 11, .inl (kI, 1019, .inl g141_10)), (ra 14, .inl (kI, 12, .inl q_reach)), (ra 15, .inl (kJ, 24, .inr (.inl g141_12))), (ra 27, .inl (kI, 1019, .inl g141_13))] H → va_D A [(m0, .inr (11, oX11 ra y141_0)), (ra 2, .inl (kI, 8, .inl q_told)), (ra 3, .inl (kI, 24, .inl q_kind)), (ra 4, .inl (kI, 24, .inl q_salt)), (ra 5, .inl (kI, 24, .inl q_pace)), (ra 6, .inl (kI, 24, .inl q_mute)), (ra 7, .inl (kI, 24, .inl q_late)), (ra 8, .inl (kI, 40, .inl q_from)), (ra 9, .inl (kI, 40, .inl q_to)), (ra 10, .inl (kI, 6, .inl q_goal)), (ra 11, .inl (kI, 1019, .inl g141_10)), (ra 14, .inl (kI, 12, .inl q_reach)), (ra 15, .inl (kJ, 24, .inr (.inl g141_12))), (ra 27, .inl (kI, 1019, .inl g141_13))] → va_S A s.heap H locs → lv_has ls 7 [(0, .ref m0), (1, .int p0), (2, .int p1), (3, .int p2), (4, .int v141_loc4), (5, .int v141_loc5), (6, .int v141_loc6)] → W p l e (headSpec wsX11_years rm_s11_years).room s m args0 below meth c H locs (0) (0) (MQ below (va_Qi (fun (r : Int32) (_ : Unit) => True) (fun _ t => ∃ (x0' : Nat → Int32) (q_now' : Nat → Int32) (q_met' : Nat → Int64) (q_rowThen' : Nat → Int32), fI lX11 hX11 x0' ∧ iv 0 0 (x0' 14) ∧ fI lNow hNow q_now' ∧ fI lNow hNow q_rowThen' ∧ (x0' 1 = x0 1) ∧ (x0' 10 = x0 10) ∧ (x0' 11 = x0 11) ∧ va_P (dC, dI) vwCl [(m0, .inr (11, oX11 ra x0')), (ra 2, .inl (kI, 8, .inl q_told)), (ra 3, .inl (kI, 24, .inl q_kind)), (ra 4, .inl (kI, 24, .inl q_salt)), (ra 5, .inl (kI, 24, .inl q_pace)), (ra 6, .inl (kI, 24, .inl q_mute)), (ra 7, .inl (kI, 24, .inl q_late)), (ra 8, .inl (kI, 40, .inl q_from)), (ra 9, .inl (kI, 40, .inl q_to)), (ra 10, .inl (kI, 6, .inl q_goal)), (ra 11, .inl (kI, 1019, .inl q_now')), (ra 14, .inl (kI, 12, .inl q_reach)), (ra 15, .inl (kJ, 24, .inr (.inl q_met'))), (ra 27, .inl (kI, 1019, .inl q_rowThen'))] t.heap ∧ va_D A [(m0, .inr (11, oX11 ra x0')), (ra 2, .inl (kI, 8, .inl q_told)), (ra 3, .inl (kI, 24, .inl q_kind)), (ra 4, .inl (kI, 24, .inl q_salt)), (ra 5, .inl (kI, 24, .inl q_pace)), (ra 6, .inl (kI, 24, .inl q_mute)), (ra 7, .inl (kI, 24, .inl q_late)), (ra 8, .inl (kI, 40, .inl q_from)), (ra 9, .inl (kI, 40, .inl q_to)), (ra 10, .inl (kI, 6, .inl q_goal)), (ra 11, .inl (kI, 1019, .inl q_now')), (ra 14, .inl (kI, 12, .inl q_reach)), (ra 15, .inl (kJ, 24, .inr (.inl q_met'))), (ra 27, .inl (kI, 1019, .inl q_rowThen'))]) A) args0 s 0 0 A) (F0 m 141 ls [.int v141_stk0]) := by
    intro y141_0 g141_10 g141_12 g141_13 v141_loc4 v141_loc5 v141_loc6 v141_stk0 H locs ls hI141_0 hI141_10 hI141_13 h141_4 h141_5 h141_6 h141_7 htp_141 hfp_141 hor_141 hP hD hS hl
    refine lv_istore (lv' := [(6, .int v141_stk0), (0, .ref m0), (1, .int p0), (2, .int p1), (3, .int p2), (4, .int v141_loc4), (5, .int v141_loc5)]) hx hb dX11_years_141 hl (Nat.le_of_ble_eq_true rfl) rfl (fun ls hl => ?_)
    refine lv_aload_n hx hb dX11_years_143 rfl (lv_at hl 1 rfl) ?_
    refine va_get (D := (dC, dI)) (ci := 11) (v := .ref (ra 11)) (C := RX11) (T := TX11) (N := 61) hx hb hts hin11 hown hK hP 0 rfl rfl 12 (Nat.le_of_ble_eq_true rfl) hw_0 (fun _ h9 => h9) rfl dX11_years_144 ?_
    refine lv_aload_n hx hb dX11_years_147 rfl (lv_at hl 1 rfl) ?_
    refine va_get (D := (dC, dI)) (ci := 11) (v := .ref (ra 27)) (C := RX11) (T := TX11) (N := 61) hx hb hts hin11 hown hK hP 0 rfl rfl 50 (Nat.le_of_ble_eq_true rfl) hw_1 (fun _ h9 => h9) rfl dX11_years_148 ?_
    obtain ⟨hPc, hDc, hFc, hJn⟩ := cl_a (wc := [(ra 11, .inl (kI, 1019, .inl g141_10)), (ra 27, .inl (kI, 1019, .inl g141_13))]) (wr := [(m0, .inr (11, oX11 ra y141_0)), (ra 2, .inl (kI, 8, .inl q_told)), (ra 3, .inl (kI, 24, .inl q_kind)), (ra 4, .inl (kI, 24, .inl q_salt)), (ra 5, .inl (kI, 24, .inl q_pace)), (ra 6, .inl (kI, 24, .inl q_mute)), (ra 7, .inl (kI, 24, .inl q_late)), (ra 8, .inl (kI, 40, .inl q_from)), (ra 9, .inl (kI, 40, .inl q_to)), (ra 10, .inl (kI, 6, .inl q_goal)), (ra 14, .inl (kI, 12, .inl q_reach)), (ra 15, .inl (kJ, 24, .inr (.inl g141_12)))]) hP hD hS hA [10, 13] [0, 1, 2, 3, 4, 5, 6, 7, 8, 9, 11, 12] rfl rfl (by decide +kernel)
    refine va_callv (va_runS (As := [.ref (ra 11), .ref (ra 27)]) (rest := []) ⟨hx, hb, hml, hown, hts⟩ (s11_copyTo_now l dC dI kB kI kJ kZ kC kS H.size (ra 11) (ra 27) g141_10 g141_13 (hI141_10) (hI141_13)) (va_cwS 2 hts gX11_years_X11_copyTo rfl rfl rfl (by decide +kernel) ⟨Nat.le_of_ble_eq_true rfl, Nat.le_of_ble_eq_true rfl⟩) ⟨fun a U g mk q => by obtain ⟨q0, q1, qP, qE, qD⟩ := q; exact ⟨q0, q1, qP, kE_call qE, qD⟩, fun U hU hW => ⟨rfl, by rw [hU], by rw [hU]; exact hPc, kE_warm hW hE, hDc.weaken (fun _ _ _ _ => trivial)⟩⟩ rfl rfl hl.1 rfl (lv_room (Nat.le_of_ble_eq_true rfl)) dX11_years_151 ⟨Nat.le_of_ble_eq_true rfl, Nat.le_of_ble_eq_true rfl⟩) hS (fun q _ h => hFc q h) hFc (fun u t H locs ht hvm w2 hB hz1 hk1 hS => ?_)
    obtain ⟨f3, hq4, hP1, hD1⟩ := hB
    try dsimp only at w2
    obtain ⟨hPa, hDa⟩ := hJn (w1 := [(ra 11, .inl (kI, 1019, .inl f3)), (ra 27, .inl (kI, 1019, .inl g141_13))]) hk1 ht hP1 hD1
    clear hP hD hPc hDc hFc hJn hP1 hD1 hk1
    have hP : va_P (dC, dI) vwCl [(m0, .inr (11, oX11 ra y141_0)), (ra 2, .inl (kI, 8, .inl q_told)), (ra 3, .inl (kI, 24, .inl q_kind)), (ra 4, .inl (kI, 24, .inl q_salt)), (ra 5, .inl (kI, 24, .inl q_pace)), (ra 6, .inl (kI, 24, .inl q_mute)), (ra 7, .inl (kI, 24, .inl q_late)), (ra 8, .inl (kI, 40, .inl q_from)), (ra 9, .inl (kI, 40, .inl q_to)), (ra 10, .inl (kI, 6, .inl q_goal)), (ra 14, .inl (kI, 12, .inl q_reach)), (ra 15, .inl (kJ, 24, .inr (.inl g141_12))), (ra 11, .inl (kI, 1019, .inl f3)), (ra 27, .inl (kI, 1019, .inl g141_13))] H := hPa
    have hD : va_D A [(m0, .inr (11, oX11 ra y141_0)), (ra 2, .inl (kI, 8, .inl q_told)), (ra 3, .inl (kI, 24, .inl q_kind)), (ra 4, .inl (kI, 24, .inl q_salt)), (ra 5, .inl (kI, 24, .inl q_pace)), (ra 6, .inl (kI, 24, .inl q_mute)), (ra 7, .inl (kI, 24, .inl q_late)), (ra 8, .inl (kI, 40, .inl q_from)), (ra 9, .inl (kI, 40, .inl q_to)), (ra 10, .inl (kI, 6, .inl q_goal)), (ra 14, .inl (kI, 12, .inl q_reach)), (ra 15, .inl (kJ, 24, .inr (.inl g141_12))), (ra 11, .inl (kI, 1019, .inl f3)), (ra 27, .inl (kI, 1019, .inl g141_13))] := hDa
    clear hPa hDa
    refine W.widen (k := 0) (n := 0) (Nat.le_of_ble_eq_true rfl) (Nat.le_of_ble_eq_true rfl) ?_
    refine lv_iload hx hb dX11_years_154 (lv_at hl 0 rfl) ?_
    have hPD9 := cl_s (wc := [(m0, .inr (11, oX11 ra y141_0)), (ra 2, .inl (kI, 8, .inl q_told)), (ra 3, .inl (kI, 24, .inl q_kind)), (ra 4, .inl (kI, 24, .inl q_salt)), (ra 5, .inl (kI, 24, .inl q_pace)), (ra 6, .inl (kI, 24, .inl q_mute)), (ra 7, .inl (kI, 24, .inl q_late)), (ra 8, .inl (kI, 40, .inl q_from)), (ra 9, .inl (kI, 40, .inl q_to)), (ra 10, .inl (kI, 6, .inl q_goal)), (ra 11, .inl (kI, 1019, .inl f3)), (ra 14, .inl (kI, 12, .inl q_reach)), (ra 15, .inl (kJ, 24, .inr (.inl g141_12))), (ra 27, .inl (kI, 1019, .inl g141_13))]) hP hD [0, 1, 2, 3, 4, 5, 6, 7, 8, 9, 12, 10, 11, 13] rfl (by decide +kernel)
    have hP9 := hPD9.1
    have hD9 := hPD9.2
    exact W.iret (v := v141_stk0) hx hb hr (fun t ht hW => ⟨⟨v141_stk0, (), rfl, trivial, y141_0, f3, g141_12, g141_13, hI141_0, h141_7, hq4, hI141_13, (show y141_0 1 = x0 1 from htp_141), (show y141_0 10 = x0 10 from hfp_141), (show y141_0 11 = x0 11 from hor_141), by rw [ht]; exact hP9, hD9⟩, hS.F ht⟩) hS.2.2 dX11_years_156
  have hJ83 : ∀ (n : Nat) (y83_0 : Nat → Int32) (g83_10 : Nat → Int32) (g83_12 : Nat → Int64) (g83_13 : Nat → Int32) (v83_loc4 : Int32) (v83_loc5 : Int32) (v83_loc6 : Int32) (H : Heap) (locs : List Loc) (ls : Array Slot), (12 - v83_loc6.toInt).toNat < n → fI lX11 hX11 y83_0 → fI lNow hNow g83_10 → fI lNow hNow g83_13 → iv 0 40 p1 → iv 0 2 p2 → iv 0 12 v83_loc6 → iv 0 0 (y83_0 14) → (y83_0 1 = x0 1) → (y83_0 10 = x0 10) → (y83_0 11 = x0 11) → va_P (dC, dI) vwCl [(m0, .inr (11, oX11 ra y83_0)), (ra 2, .inl (kI, 8, .inl q_told)), (ra 3, .inl (kI, 24, .inl q_kind)), (ra 4, .inl (kI, 24, .inl q_salt)), (ra 5, .inl (kI, 24, .inl q_pace)), (ra 6, .inl (kI, 24, .inl q_mute)), (ra 7, .inl (kI, 24, .inl q_late)), (ra 8, .inl (kI, 40, .inl q_from)), (ra 9, .inl (kI, 40, .inl q_to)), (ra 10, .inl (kI, 6, .inl q_goal)), (ra 11, .inl (kI, 1019, .inl g83_10)), (ra 14, .inl (kI, 12, .inl q_reach)), (ra 15, .inl (kJ, 24, .inr (.inl g83_12))), (ra 27, .inl (kI, 1019, .inl g83_13))] H → va_D A [(m0, .inr (11, oX11 ra y83_0)), (ra 2, .inl (kI, 8, .inl q_told)), (ra 3, .inl (kI, 24, .inl q_kind)), (ra 4, .inl (kI, 24, .inl q_salt)), (ra 5, .inl (kI, 24, .inl q_pace)), (ra 6, .inl (kI, 24, .inl q_mute)), (ra 7, .inl (kI, 24, .inl q_late)), (ra 8, .inl (kI, 40, .inl q_from)), (ra 9, .inl (kI, 40, .inl q_to)), (ra 10, .inl (kI, 6, .inl q_goal)), (ra 11, .inl (kI, 1019, .inl g83_10)), (ra 14, .inl (kI, 12, .inl q_reach)), (ra 15, .inl (kJ, 24, .inr (.inl g83_12))), (ra 27, .inl (kI, 1019, .inl g83_13))] → va_S A s.heap H locs → lv_has ls 7 [(0, .ref m0), (1, .int p0), (2, .int p1), (3, .int p2), (4, .int v83_loc4), (5, .int v83_loc5), (6, .int v83_loc6)] → W p l e (headSpec wsX11_years rm_s11_years).room s m args0 below meth c H locs (0) (0) (MQ below (va_Qi (fun (r : Int32) (_ : Unit) => True) (fun _ t => ∃ (x0' : Nat → Int32) (q_now' : Nat → Int32) (q_met' : Nat → Int64) (q_rowThen' : Nat → Int32), fI lX11 hX11 x0' ∧ iv 0 0 (x0' 14) ∧ fI lNow hNow q_now' ∧ fI lNow hNow q_rowThen' ∧ (x0' 1 = x0 1) ∧ (x0' 10 = x0 10) ∧ (x0' 11 = x0 11) ∧ va_P (dC, dI) vwCl [(m0, .inr (11, oX11 ra x0')), (ra 2, .inl (kI, 8, .inl q_told)), (ra 3, .inl (kI, 24, .inl q_kind)), (ra 4, .inl (kI, 24, .inl q_salt)), (ra 5, .inl (kI, 24, .inl q_pace)), (ra 6, .inl (kI, 24, .inl q_mute)), (ra 7, .inl (kI, 24, .inl q_late)), (ra 8, .inl (kI, 40, .inl q_from)), (ra 9, .inl (kI, 40, .inl q_to)), (ra 10, .inl (kI, 6, .inl q_goal)), (ra 11, .inl (kI, 1019, .inl q_now')), (ra 14, .inl (kI, 12, .inl q_reach)), (ra 15, .inl (kJ, 24, .inr (.inl q_met'))), (ra 27, .inl (kI, 1019, .inl q_rowThen'))] t.heap ∧ va_D A [(m0, .inr (11, oX11 ra x0')), (ra 2, .inl (kI, 8, .inl q_told)), (ra 3, .inl (kI, 24, .inl q_kind)), (ra 4, .inl (kI, 24, .inl q_salt)), (ra 5, .inl (kI, 24, .inl q_pace)), (ra 6, .inl (kI, 24, .inl q_mute)), (ra 7, .inl (kI, 24, .inl q_late)), (ra 8, .inl (kI, 40, .inl q_from)), (ra 9, .inl (kI, 40, .inl q_to)), (ra 10, .inl (kI, 6, .inl q_goal)), (ra 11, .inl (kI, 1019, .inl q_now')), (ra 14, .inl (kI, 12, .inl q_reach)), (ra 15, .inl (kJ, 24, .inr (.inl q_met'))), (ra 27, .inl (kI, 1019, .inl q_rowThen'))]) A) args0 s 0 0 A) (F0 m 83 ls []) := by
    intro n
    induction n with
    | zero => intro y83_0 g83_10 g83_12 g83_13 v83_loc4 v83_loc5 v83_loc6 H locs ls hm83; exact absurd hm83 (Nat.not_lt_zero _)
    | succ n ih83 =>
      intro y83_0 g83_10 g83_12 g83_13 v83_loc4 v83_loc5 v83_loc6 H locs ls hm83 hI83_0 hI83_10 hI83_13 h83_4 h83_5 h83_6 h83_7 htp_83 hfp_83 hor_83 hP hD hS hl
      refine lv_iload hx hb dX11_years_83 (lv_at hl 6 rfl) ?_
      refine lv_aload_n hx hb dX11_years_85 rfl (lv_at hl 0 rfl) ?_
      obtain ⟨hPc, hDc, hFc, hJn⟩ := cl_a (wc := [(m0, .inr (11, oX11 ra y83_0)), (ra 2, .inl (kI, 8, .inl q_told))]) (wr := [(ra 3, .inl (kI, 24, .inl q_kind)), (ra 4, .inl (kI, 24, .inl q_salt)), (ra 5, .inl (kI, 24, .inl q_pace)), (ra 6, .inl (kI, 24, .inl q_mute)), (ra 7, .inl (kI, 24, .inl q_late)), (ra 8, .inl (kI, 40, .inl q_from)), (ra 9, .inl (kI, 40, .inl q_to)), (ra 10, .inl (kI, 6, .inl q_goal)), (ra 11, .inl (kI, 1019, .inl g83_10)), (ra 14, .inl (kI, 12, .inl q_reach)), (ra 15, .inl (kJ, 24, .inr (.inl g83_12))), (ra 27, .inl (kI, 1019, .inl g83_13))]) hP hD hS hA [0, 1] [2, 3, 4, 5, 6, 7, 8, 9, 10, 11, 12, 13] rfl rfl (by decide +kernel)
      refine va_calli (va_runV (As := []) (rest := [.int v83_loc6]) ⟨hx, hb, hml, hown, hts⟩ (s11_routers l dC dI kB kI kJ kZ kC kS H.size m0 ra y83_0 q_told (hI83_0) (hq_told)) (cwV 0 hts gX11_years_X11_routers rfl rfl rfl (by decide +kernel) ⟨Nat.le_of_ble_eq_true rfl, Nat.le_of_ble_eq_true rfl⟩) ⟨fun a U g mk q => by obtain ⟨q0, q1, qP, qE, qD⟩ := q; exact ⟨q0, q1, qP, kE_call qE, qD⟩, va_recv hK hP (ci := 11) (q0 := 0) rfl rfl, fun U hU hW => ⟨rfl, by rw [hU], by rw [hU]; exact hPc, kE_warm hW hE, hDc.weaken (fun _ _ _ _ => trivial)⟩⟩ rfl rfl hl.1 rfl (lv_room (Nat.le_of_ble_eq_true rfl)) dX11_years_86 ⟨Nat.le_of_ble_eq_true rfl, Nat.le_of_ble_eq_true rfl⟩) hS (fun q _ h => hFc q h) hFc (fun r5 u t H locs ht hvm w6 hB hz1 hk1 hS => ?_)
      obtain ⟨hP1, hD1⟩ := hB
      try dsimp only at w6
      obtain ⟨hPa, hDa⟩ := hJn (w1 := [(m0, .inr (11, oX11 ra y83_0)), (ra 2, .inl (kI, 8, .inl q_told))]) hk1 ht hP1 hD1
      clear hP hD hPc hDc hFc hJn hP1 hD1 hk1
      have hP : va_P (dC, dI) vwCl [(ra 3, .inl (kI, 24, .inl q_kind)), (ra 4, .inl (kI, 24, .inl q_salt)), (ra 5, .inl (kI, 24, .inl q_pace)), (ra 6, .inl (kI, 24, .inl q_mute)), (ra 7, .inl (kI, 24, .inl q_late)), (ra 8, .inl (kI, 40, .inl q_from)), (ra 9, .inl (kI, 40, .inl q_to)), (ra 10, .inl (kI, 6, .inl q_goal)), (ra 11, .inl (kI, 1019, .inl g83_10)), (ra 14, .inl (kI, 12, .inl q_reach)), (ra 15, .inl (kJ, 24, .inr (.inl g83_12))), (ra 27, .inl (kI, 1019, .inl g83_13)), (m0, .inr (11, oX11 ra y83_0)), (ra 2, .inl (kI, 8, .inl q_told))] H := hPa
      have hD : va_D A [(ra 3, .inl (kI, 24, .inl q_kind)), (ra 4, .inl (kI, 24, .inl q_salt)), (ra 5, .inl (kI, 24, .inl q_pace)), (ra 6, .inl (kI, 24, .inl q_mute)), (ra 7, .inl (kI, 24, .inl q_late)), (ra 8, .inl (kI, 40, .inl q_from)), (ra 9, .inl (kI, 40, .inl q_to)), (ra 10, .inl (kI, 6, .inl q_goal)), (ra 11, .inl (kI, 1019, .inl g83_10)), (ra 14, .inl (kI, 12, .inl q_reach)), (ra 15, .inl (kJ, 24, .inr (.inl g83_12))), (ra 27, .inl (kI, 1019, .inl g83_13)), (m0, .inr (11, oX11 ra y83_0)), (ra 2, .inl (kI, 8, .inl q_told))] := hDa
      clear hPa hDa
      refine W.widen (k := 0) (n := 0) (Nat.le_of_ble_eq_true rfl) (Nat.le_of_ble_eq_true rfl) ?_
      subst w6
      refine lv_icmp_ge (tgt := 113) hx hb dX11_years_89 rfl (fun c7 => ?_) (fun c7 => ?_)
      · refine lv_iload_n hx hb dX11_years_113 rfl (lv_at hl 3 rfl) ?_
        refine lv_if_ne (tgt := 124) hx hb dX11_years_114 rfl (fun c8 => ?_) (fun c8 => ?_)
        · have b9 : iv 1 2 p2 := iv_neLo c8 h83_5 ivk_0 (by decide) (by decide)
          refine lv_iload_n hx hb dX11_years_124 rfl (lv_at hl 3 rfl) ?_
          refine lv_iconst (v := 1) hx hb dX11_years_125 ic_1 ?_
          refine lv_icmp_ne (tgt := 139) hx hb dX11_years_126 rfl (fun c10 => ?_) (fun c10 => ?_)
          · have b11 : iv 2 2 p2 := iv_neLo c10 b9 ivk_1 (by decide) (by decide)
            refine lv_iload hx hb dX11_years_139 (lv_at hl 5 rfl) ?_
            have hPD9 := cl_s (wc := [(m0, .inr (11, oX11 ra y83_0)), (ra 2, .inl (kI, 8, .inl q_told)), (ra 3, .inl (kI, 24, .inl q_kind)), (ra 4, .inl (kI, 24, .inl q_salt)), (ra 5, .inl (kI, 24, .inl q_pace)), (ra 6, .inl (kI, 24, .inl q_mute)), (ra 7, .inl (kI, 24, .inl q_late)), (ra 8, .inl (kI, 40, .inl q_from)), (ra 9, .inl (kI, 40, .inl q_to)), (ra 10, .inl (kI, 6, .inl q_goal)), (ra 11, .inl (kI, 1019, .inl g83_10)), (ra 14, .inl (kI, 12, .inl q_reach)), (ra 15, .inl (kJ, 24, .inr (.inl g83_12))), (ra 27, .inl (kI, 1019, .inl g83_13))]) hP hD [12, 13, 0, 1, 2, 3, 4, 5, 6, 7, 8, 9, 10, 11] rfl (by decide +kernel)
            exact hJ141 y83_0 g83_10 g83_12 g83_13 v83_loc4 v83_loc5 v83_loc6 v83_loc5 _ _ _ (hI83_0) (hI83_10) (hI83_13) (h83_4) ((iv_w b11 (by decide) (by decide))) (h83_6) (h83_7) ((show y83_0 1 = x0 1 from htp_83)) ((show y83_0 10 = x0 10 from hfp_83)) ((show y83_0 11 = x0 11 from hor_83)) (hPD9.1) (hPD9.2) hS (lv_sub hl [0, 1, 2, 3, 4, 5, 6] rfl)
          · have b12 : iv 1 1 p2 := iv_eqL c10 ivk_1
            refine lv_aload_n hx hb dX11_years_129 rfl (lv_at hl 0 rfl) ?_
            obtain ⟨hPc, hDc, hFc, hJn⟩ := cl_a (wc := [(m0, .inr (11, oX11 ra y83_0)), (ra 11, .inl (kI, 1019, .inl g83_10))]) (wr := [(ra 3, .inl (kI, 24, .inl q_kind)), (ra 4, .inl (kI, 24, .inl q_salt)), (ra 5, .inl (kI, 24, .inl q_pace)), (ra 6, .inl (kI, 24, .inl q_mute)), (ra 7, .inl (kI, 24, .inl q_late)), (ra 8, .inl (kI, 40, .inl q_from)), (ra 9, .inl (kI, 40, .inl q_to)), (ra 10, .inl (kI, 6, .inl q_goal)), (ra 14, .inl (kI, 12, .inl q_reach)), (ra 15, .inl (kJ, 24, .inr (.inl g83_12))), (ra 27, .inl (kI, 1019, .inl g83_13)), (ra 2, .inl (kI, 8, .inl q_told))]) hP hD hS hA [12, 8] [0, 1, 2, 3, 4, 5, 6, 7, 9, 10, 11, 13] rfl rfl (by decide +kernel)
            refine va_calli (va_runV (As := []) (rest := []) ⟨hx, hb, hml, hown, hts⟩ (s11_sentAll l dC dI kB kI kJ kZ kC kS H.size m0 ra y83_0 g83_10 (hI83_0) (hI83_10)) (cwV 0 hts gX11_years_X11_sentAll rfl rfl rfl (by decide +kernel) ⟨Nat.le_of_ble_eq_true rfl, Nat.le_of_ble_eq_true rfl⟩) ⟨fun a U g mk q => by obtain ⟨q0, q1, qP, qE, qD⟩ := q; exact ⟨q0, q1, qP, kE_call qE, qD⟩, va_recv hK hP (ci := 11) (q0 := 12) rfl rfl, fun U hU hW => ⟨rfl, by rw [hU], by rw [hU]; exact hPc, kE_warm hW hE, hDc.weaken (fun _ _ _ _ => trivial)⟩⟩ rfl rfl hl.1 rfl (lv_room (Nat.le_of_ble_eq_true rfl)) dX11_years_130 ⟨Nat.le_of_ble_eq_true rfl, Nat.le_of_ble_eq_true rfl⟩) hS (fun q _ h => hFc q h) hFc (fun r13 u t H locs ht hvm w14 hB hz1 hk1 hS => ?_)
            obtain ⟨hP1, hD1⟩ := hB
            try dsimp only at w14
            obtain ⟨hPa, hDa⟩ := hJn (w1 := [(m0, .inr (11, oX11 ra y83_0)), (ra 11, .inl (kI, 1019, .inl g83_10))]) hk1 ht hP1 hD1
            clear hP hD hPc hDc hFc hJn hP1 hD1 hk1
            have hP : va_P (dC, dI) vwCl [(ra 3, .inl (kI, 24, .inl q_kind)), (ra 4, .inl (kI, 24, .inl q_salt)), (ra 5, .inl (kI, 24, .inl q_pace)), (ra 6, .inl (kI, 24, .inl q_mute)), (ra 7, .inl (kI, 24, .inl q_late)), (ra 8, .inl (kI, 40, .inl q_from)), (ra 9, .inl (kI, 40, .inl q_to)), (ra 10, .inl (kI, 6, .inl q_goal)), (ra 14, .inl (kI, 12, .inl q_reach)), (ra 15, .inl (kJ, 24, .inr (.inl g83_12))), (ra 27, .inl (kI, 1019, .inl g83_13)), (ra 2, .inl (kI, 8, .inl q_told)), (m0, .inr (11, oX11 ra y83_0)), (ra 11, .inl (kI, 1019, .inl g83_10))] H := hPa
            have hD : va_D A [(ra 3, .inl (kI, 24, .inl q_kind)), (ra 4, .inl (kI, 24, .inl q_salt)), (ra 5, .inl (kI, 24, .inl q_pace)), (ra 6, .inl (kI, 24, .inl q_mute)), (ra 7, .inl (kI, 24, .inl q_late)), (ra 8, .inl (kI, 40, .inl q_from)), (ra 9, .inl (kI, 40, .inl q_to)), (ra 10, .inl (kI, 6, .inl q_goal)), (ra 14, .inl (kI, 12, .inl q_reach)), (ra 15, .inl (kJ, 24, .inr (.inl g83_12))), (ra 27, .inl (kI, 1019, .inl g83_13)), (ra 2, .inl (kI, 8, .inl q_told)), (m0, .inr (11, oX11 ra y83_0)), (ra 11, .inl (kI, 1019, .inl g83_10))] := hDa
            clear hPa hDa
            refine W.widen (k := 0) (n := 0) (Nat.le_of_ble_eq_true rfl) (Nat.le_of_ble_eq_true rfl) ?_
            refine lv_iload hx hb dX11_years_133 (lv_at hl 4 rfl) ?_
            refine lv_isub hx hb dX11_years_135 ?_
            refine lv_topi (fun z15 _ => ?_)
            refine lv_goto (tgt := 141) hx hb dX11_years_136 rfl ?_
            have hPD9 := cl_s (wc := [(m0, .inr (11, oX11 ra y83_0)), (ra 2, .inl (kI, 8, .inl q_told)), (ra 3, .inl (kI, 24, .inl q_kind)), (ra 4, .inl (kI, 24, .inl q_salt)), (ra 5, .inl (kI, 24, .inl q_pace)), (ra 6, .inl (kI, 24, .inl q_mute)), (ra 7, .inl (kI, 24, .inl q_late)), (ra 8, .inl (kI, 40, .inl q_from)), (ra 9, .inl (kI, 40, .inl q_to)), (ra 10, .inl (kI, 6, .inl q_goal)), (ra 11, .inl (kI, 1019, .inl g83_10)), (ra 14, .inl (kI, 12, .inl q_reach)), (ra 15, .inl (kJ, 24, .inr (.inl g83_12))), (ra 27, .inl (kI, 1019, .inl g83_13))]) hP hD [12, 11, 0, 1, 2, 3, 4, 5, 6, 7, 13, 8, 9, 10] rfl (by decide +kernel)
            exact hJ141 y83_0 g83_10 g83_12 g83_13 v83_loc4 v83_loc5 v83_loc6 z15 _ _ _ (hI83_0) (hI83_10) (hI83_13) (h83_4) ((iv_w b12 (by decide) (by decide))) (h83_6) (h83_7) ((show y83_0 1 = x0 1 from htp_83)) ((show y83_0 10 = x0 10 from hfp_83)) ((show y83_0 11 = x0 11 from hor_83)) (hPD9.1) (hPD9.2) hS (lv_sub hl [0, 1, 2, 3, 4, 5, 6] rfl)
        · have b16 : iv 0 0 p2 := iv_eqL c8 ivk_0
          refine lv_aload_n hx hb dX11_years_117 rfl (lv_at hl 0 rfl) ?_
          obtain ⟨hPc, hDc, hFc, hJn⟩ := cl_a (wc := [(m0, .inr (11, oX11 ra y83_0)), (ra 2, .inl (kI, 8, .inl q_told)), (ra 11, .inl (kI, 1019, .inl g83_10))]) (wr := [(ra 3, .inl (kI, 24, .inl q_kind)), (ra 4, .inl (kI, 24, .inl q_salt)), (ra 5, .inl (kI, 24, .inl q_pace)), (ra 6, .inl (kI, 24, .inl q_mute)), (ra 7, .inl (kI, 24, .inl q_late)), (ra 8, .inl (kI, 40, .inl q_from)), (ra 9, .inl (kI, 40, .inl q_to)), (ra 10, .inl (kI, 6, .inl q_goal)), (ra 14, .inl (kI, 12, .inl q_reach)), (ra 15, .inl (kJ, 24, .inr (.inl g83_12))), (ra 27, .inl (kI, 1019, .inl g83_13))]) hP hD hS hA [12, 13, 8] [0, 1, 2, 3, 4, 5, 6, 7, 9, 10, 11] rfl rfl (by decide +kernel)
          refine va_calli (va_runV (As := []) (rest := []) ⟨hx, hb, hml, hown, hts⟩ (s11_edgesAll l dC dI kB kI kJ kZ kC kS H.size m0 ra y83_0 q_told g83_10 (hI83_0) (hq_told) (hI83_10)) (cwV 0 hts gX11_years_X11_edgesAll rfl rfl rfl (by decide +kernel) ⟨Nat.le_of_ble_eq_true rfl, Nat.le_of_ble_eq_true rfl⟩) ⟨fun a U g mk q => by obtain ⟨q0, q1, qP, qE, qD⟩ := q; exact ⟨q0, q1, qP, kE_call qE, qD⟩, va_recv hK hP (ci := 11) (q0 := 12) rfl rfl, fun U hU hW => ⟨rfl, by rw [hU], by rw [hU]; exact hPc, kE_warm hW hE, hDc.weaken (fun _ _ _ _ => trivial)⟩⟩ rfl rfl hl.1 rfl (lv_room (Nat.le_of_ble_eq_true rfl)) dX11_years_118 ⟨Nat.le_of_ble_eq_true rfl, Nat.le_of_ble_eq_true rfl⟩) hS (fun q _ h => hFc q h) hFc (fun r17 u t H locs ht hvm w18 hB hz1 hk1 hS => ?_)
          obtain ⟨hP1, hD1⟩ := hB
          try dsimp only at w18
          obtain ⟨hPa, hDa⟩ := hJn (w1 := [(m0, .inr (11, oX11 ra y83_0)), (ra 2, .inl (kI, 8, .inl q_told)), (ra 11, .inl (kI, 1019, .inl g83_10))]) hk1 ht hP1 hD1
          clear hP hD hPc hDc hFc hJn hP1 hD1 hk1
          have hP : va_P (dC, dI) vwCl [(ra 3, .inl (kI, 24, .inl q_kind)), (ra 4, .inl (kI, 24, .inl q_salt)), (ra 5, .inl (kI, 24, .inl q_pace)), (ra 6, .inl (kI, 24, .inl q_mute)), (ra 7, .inl (kI, 24, .inl q_late)), (ra 8, .inl (kI, 40, .inl q_from)), (ra 9, .inl (kI, 40, .inl q_to)), (ra 10, .inl (kI, 6, .inl q_goal)), (ra 14, .inl (kI, 12, .inl q_reach)), (ra 15, .inl (kJ, 24, .inr (.inl g83_12))), (ra 27, .inl (kI, 1019, .inl g83_13)), (m0, .inr (11, oX11 ra y83_0)), (ra 2, .inl (kI, 8, .inl q_told)), (ra 11, .inl (kI, 1019, .inl g83_10))] H := hPa
          have hD : va_D A [(ra 3, .inl (kI, 24, .inl q_kind)), (ra 4, .inl (kI, 24, .inl q_salt)), (ra 5, .inl (kI, 24, .inl q_pace)), (ra 6, .inl (kI, 24, .inl q_mute)), (ra 7, .inl (kI, 24, .inl q_late)), (ra 8, .inl (kI, 40, .inl q_from)), (ra 9, .inl (kI, 40, .inl q_to)), (ra 10, .inl (kI, 6, .inl q_goal)), (ra 14, .inl (kI, 12, .inl q_reach)), (ra 15, .inl (kJ, 24, .inr (.inl g83_12))), (ra 27, .inl (kI, 1019, .inl g83_13)), (m0, .inr (11, oX11 ra y83_0)), (ra 2, .inl (kI, 8, .inl q_told)), (ra 11, .inl (kI, 1019, .inl g83_10))] := hDa
          clear hPa hDa
          refine W.widen (k := 0) (n := 0) (Nat.le_of_ble_eq_true rfl) (Nat.le_of_ble_eq_true rfl) ?_
          refine lv_goto (tgt := 141) hx hb dX11_years_121 rfl ?_
          have hPD9 := cl_s (wc := [(m0, .inr (11, oX11 ra y83_0)), (ra 2, .inl (kI, 8, .inl q_told)), (ra 3, .inl (kI, 24, .inl q_kind)), (ra 4, .inl (kI, 24, .inl q_salt)), (ra 5, .inl (kI, 24, .inl q_pace)), (ra 6, .inl (kI, 24, .inl q_mute)), (ra 7, .inl (kI, 24, .inl q_late)), (ra 8, .inl (kI, 40, .inl q_from)), (ra 9, .inl (kI, 40, .inl q_to)), (ra 10, .inl (kI, 6, .inl q_goal)), (ra 11, .inl (kI, 1019, .inl g83_10)), (ra 14, .inl (kI, 12, .inl q_reach)), (ra 15, .inl (kJ, 24, .inr (.inl g83_12))), (ra 27, .inl (kI, 1019, .inl g83_13))]) hP hD [11, 12, 0, 1, 2, 3, 4, 5, 6, 7, 13, 8, 9, 10] rfl (by decide +kernel)
          exact hJ141 y83_0 g83_10 g83_12 g83_13 v83_loc4 v83_loc5 v83_loc6 r17 _ _ _ (hI83_0) (hI83_10) (hI83_13) (h83_4) ((iv_w b16 (by decide) (by decide))) (h83_6) (h83_7) ((show y83_0 1 = x0 1 from htp_83)) ((show y83_0 10 = x0 10 from hfp_83)) ((show y83_0 11 = x0 11 from hor_83)) (hPD9.1) (hPD9.2) hS (lv_sub hl [0, 1, 2, 3, 4, 5, 6] rfl)
      · have b19 : iv 0 11 v83_loc6 := iv_ltL (Int32.not_le.mp c7) h83_6 (hq_told 0 : iv 0 12 (q_told 0)) (by decide) (by decide)
        have b20 : iv 1 12 (q_told 0) := iv_ltR (Int32.not_le.mp c7) h83_6 (hq_told 0 : iv 0 12 (q_told 0)) (by decide) (by decide)
        refine lv_iload hx hb dX11_years_92 (lv_at hl 5 rfl) ?_
        refine lv_aload_n hx hb dX11_years_94 rfl (lv_at hl 0 rfl) ?_
        refine va_get (D := (dC, dI)) (ci := 11) (v := .ref (ra 11)) (C := RX11) (T := TX11) (N := 61) hx hb hts hin11 hown hK hP 12 rfl rfl 12 (Nat.le_of_ble_eq_true rfl) hw_0 (fun _ h9 => h9) rfl dX11_years_95 ?_
        refine lv_bipush (v := 12) hx hb dX11_years_98 bp_12 ?_
        refine lv_iload hx hb dX11_years_100 (lv_at hl 6 rfl) ?_
        refine lv_iadd hx hb dX11_years_102 ?_
        refine iv_top (a := 12) (b := 23) (iv_add ivk_12 b19 (by decide) (by decide) (by decide) (by decide)) (fun z21 b22 => ?_)
        refine va_iald hx hb hK hP 8 1 rfl rfl (iv_in b22 (by decide) (by decide)) dX11_years_103 ?_
        refine lv_topi (fun z23 _ => ?_)
        refine lv_iadd hx hb dX11_years_104 ?_
        refine lv_topi (fun z24 _ => ?_)
        refine lv_istore (lv' := [(5, .int z24), (0, .ref m0), (1, .int p0), (2, .int p1), (3, .int p2), (4, .int v83_loc4), (6, .int v83_loc6)]) hx hb dX11_years_105 hl (Nat.le_of_ble_eq_true rfl) rfl (fun ls hl => ?_)
        refine lv_iinc (v := v83_loc6 + Int32.ofInt 1) (lv' := [(6, .int (v83_loc6 + Int32.ofInt 1)), (5, .int z24), (0, .ref m0), (1, .int p0), (2, .int p1), (3, .int p2), (4, .int v83_loc4)]) hx hb dX11_years_107 hl (k := 6) rfl (rfl) (Nat.le_of_ble_eq_true rfl) rfl (fun ls hl => ?_)
        have b25 : iv 1 12 (v83_loc6 + Int32.ofInt 1) := iv_add b19 ivo_1 (by decide) (by decide) (by decide) (by decide)
        refine lv_goto (tgt := 83) hx hb dX11_years_110 rfl ?_
        have hPD9 := cl_s (wc := [(m0, .inr (11, oX11 ra y83_0)), (ra 2, .inl (kI, 8, .inl q_told)), (ra 3, .inl (kI, 24, .inl q_kind)), (ra 4, .inl (kI, 24, .inl q_salt)), (ra 5, .inl (kI, 24, .inl q_pace)), (ra 6, .inl (kI, 24, .inl q_mute)), (ra 7, .inl (kI, 24, .inl q_late)), (ra 8, .inl (kI, 40, .inl q_from)), (ra 9, .inl (kI, 40, .inl q_to)), (ra 10, .inl (kI, 6, .inl q_goal)), (ra 11, .inl (kI, 1019, .inl g83_10)), (ra 14, .inl (kI, 12, .inl q_reach)), (ra 15, .inl (kJ, 24, .inr (.inl g83_12))), (ra 27, .inl (kI, 1019, .inl g83_13))]) hP hD [12, 13, 0, 1, 2, 3, 4, 5, 6, 7, 8, 9, 10, 11] rfl (by decide +kernel)
        exact ih83 y83_0 g83_10 g83_12 g83_13 v83_loc4 z24 (v83_loc6 + Int32.ofInt 1) _ _ _ (ms_up (c := 1) (d := 0) b19 hm83 (by decide) (iv_inc 1 b19 (by decide) (by decide) (by decide) (by decide)) (by decide) rfl) (hI83_0) (hI83_10) (hI83_13) (h83_4) (h83_5) ((iv_w b25 (by decide) (by decide))) (h83_7) ((show y83_0 1 = x0 1 from htp_83)) ((show y83_0 10 = x0 10 from hfp_83)) ((show y83_0 11 = x0 11 from hor_83)) (hPD9.1) (hPD9.2) hS (lv_sub hl [2, 3, 4, 5, 6, 1, 0] rfl)
  have hJ61 : ∀ (n : Nat) (y61_0 : Nat → Int32) (g61_10 : Nat → Int32) (g61_12 : Nat → Int64) (g61_13 : Nat → Int32) (v61_loc4 : Int32) (v61_loc5 : Int32) (H : Heap) (locs : List Loc) (ls : Array Slot), (40 - v61_loc5.toInt).toNat < n → fI lX11 hX11 y61_0 → fI lNow hNow g61_10 → fI lNow hNow g61_13 → iv 0 40 p1 → iv 0 2 p2 → iv 0 40 v61_loc5 → iv 0 0 (y61_0 14) → (y61_0 1 = x0 1) → (y61_0 10 = x0 10) → (y61_0 11 = x0 11) → va_P (dC, dI) vwCl [(m0, .inr (11, oX11 ra y61_0)), (ra 2, .inl (kI, 8, .inl q_told)), (ra 3, .inl (kI, 24, .inl q_kind)), (ra 4, .inl (kI, 24, .inl q_salt)), (ra 5, .inl (kI, 24, .inl q_pace)), (ra 6, .inl (kI, 24, .inl q_mute)), (ra 7, .inl (kI, 24, .inl q_late)), (ra 8, .inl (kI, 40, .inl q_from)), (ra 9, .inl (kI, 40, .inl q_to)), (ra 10, .inl (kI, 6, .inl q_goal)), (ra 11, .inl (kI, 1019, .inl g61_10)), (ra 14, .inl (kI, 12, .inl q_reach)), (ra 15, .inl (kJ, 24, .inr (.inl g61_12))), (ra 27, .inl (kI, 1019, .inl g61_13))] H → va_D A [(m0, .inr (11, oX11 ra y61_0)), (ra 2, .inl (kI, 8, .inl q_told)), (ra 3, .inl (kI, 24, .inl q_kind)), (ra 4, .inl (kI, 24, .inl q_salt)), (ra 5, .inl (kI, 24, .inl q_pace)), (ra 6, .inl (kI, 24, .inl q_mute)), (ra 7, .inl (kI, 24, .inl q_late)), (ra 8, .inl (kI, 40, .inl q_from)), (ra 9, .inl (kI, 40, .inl q_to)), (ra 10, .inl (kI, 6, .inl q_goal)), (ra 11, .inl (kI, 1019, .inl g61_10)), (ra 14, .inl (kI, 12, .inl q_reach)), (ra 15, .inl (kJ, 24, .inr (.inl g61_12))), (ra 27, .inl (kI, 1019, .inl g61_13))] → va_S A s.heap H locs → lv_has ls 7 [(0, .ref m0), (1, .int p0), (2, .int p1), (3, .int p2), (4, .int v61_loc4), (5, .int v61_loc5)] → W p l e (headSpec wsX11_years rm_s11_years).room s m args0 below meth c H locs (0) (0) (MQ below (va_Qi (fun (r : Int32) (_ : Unit) => True) (fun _ t => ∃ (x0' : Nat → Int32) (q_now' : Nat → Int32) (q_met' : Nat → Int64) (q_rowThen' : Nat → Int32), fI lX11 hX11 x0' ∧ iv 0 0 (x0' 14) ∧ fI lNow hNow q_now' ∧ fI lNow hNow q_rowThen' ∧ (x0' 1 = x0 1) ∧ (x0' 10 = x0 10) ∧ (x0' 11 = x0 11) ∧ va_P (dC, dI) vwCl [(m0, .inr (11, oX11 ra x0')), (ra 2, .inl (kI, 8, .inl q_told)), (ra 3, .inl (kI, 24, .inl q_kind)), (ra 4, .inl (kI, 24, .inl q_salt)), (ra 5, .inl (kI, 24, .inl q_pace)), (ra 6, .inl (kI, 24, .inl q_mute)), (ra 7, .inl (kI, 24, .inl q_late)), (ra 8, .inl (kI, 40, .inl q_from)), (ra 9, .inl (kI, 40, .inl q_to)), (ra 10, .inl (kI, 6, .inl q_goal)), (ra 11, .inl (kI, 1019, .inl q_now')), (ra 14, .inl (kI, 12, .inl q_reach)), (ra 15, .inl (kJ, 24, .inr (.inl q_met'))), (ra 27, .inl (kI, 1019, .inl q_rowThen'))] t.heap ∧ va_D A [(m0, .inr (11, oX11 ra x0')), (ra 2, .inl (kI, 8, .inl q_told)), (ra 3, .inl (kI, 24, .inl q_kind)), (ra 4, .inl (kI, 24, .inl q_salt)), (ra 5, .inl (kI, 24, .inl q_pace)), (ra 6, .inl (kI, 24, .inl q_mute)), (ra 7, .inl (kI, 24, .inl q_late)), (ra 8, .inl (kI, 40, .inl q_from)), (ra 9, .inl (kI, 40, .inl q_to)), (ra 10, .inl (kI, 6, .inl q_goal)), (ra 11, .inl (kI, 1019, .inl q_now')), (ra 14, .inl (kI, 12, .inl q_reach)), (ra 15, .inl (kJ, 24, .inr (.inl q_met'))), (ra 27, .inl (kI, 1019, .inl q_rowThen'))]) A) args0 s 0 0 A) (F0 m 61 ls []) := by
    intro n
    induction n with
    | zero => intro y61_0 g61_10 g61_12 g61_13 v61_loc4 v61_loc5 H locs ls hm61; exact absurd hm61 (Nat.not_lt_zero _)
    | succ n ih61 =>
      intro y61_0 g61_10 g61_12 g61_13 v61_loc4 v61_loc5 H locs ls hm61 hI61_0 hI61_10 hI61_13 h61_4 h61_5 h61_6 h61_7 htp_61 hfp_61 hor_61 hP hD hS hl
      refine lv_iload hx hb dX11_years_61 (lv_at hl 5 rfl) ?_
      refine lv_iload_n hx hb dX11_years_63 rfl (lv_at hl 2 rfl) ?_
      refine lv_icmp_ge (tgt := 77) hx hb dX11_years_64 rfl (fun c26 => ?_) (fun c26 => ?_)
      · refine lv_iconst (v := 0) hx hb dX11_years_77 ic_0 ?_
        refine lv_istore (lv' := [(5, .int 0), (0, .ref m0), (1, .int p0), (2, .int p1), (3, .int p2), (4, .int v61_loc4)]) hx hb dX11_years_78 hl (Nat.le_of_ble_eq_true rfl) rfl (fun ls hl => ?_)
        refine lv_iconst (v := 0) hx hb dX11_years_80 ic_0 ?_
        refine lv_istore (lv' := [(6, .int 0), (5, .int 0), (0, .ref m0), (1, .int p0), (2, .int p1), (3, .int p2), (4, .int v61_loc4)]) hx hb dX11_years_81 hl (Nat.le_of_ble_eq_true rfl) rfl (fun ls hl => ?_)
        exact hJ83 _ y61_0 g61_10 g61_12 g61_13 v61_loc4 0 0 _ _ _ (Nat.lt_succ_self _) (hI61_0) (hI61_10) (hI61_13) (h61_4) (h61_5) ((iv_w ivk_0 (by decide) (by decide))) (h61_7) ((show y61_0 1 = x0 1 from htp_61)) ((show y61_0 10 = x0 10 from hfp_61)) ((show y61_0 11 = x0 11 from hor_61)) (hP) (hD) hS (lv_sub hl [2, 3, 4, 5, 6, 1, 0] rfl)
      · have b27 : iv 0 39 v61_loc5 := iv_ltL (Int32.not_le.mp c26) h61_6 h61_4 (by decide) (by decide)
        have b28 : iv 1 40 p1 := iv_ltR (Int32.not_le.mp c26) h61_6 h61_4 (by decide) (by decide)
        refine lv_aload_n hx hb dX11_years_67 rfl (lv_at hl 0 rfl) ?_
        obtain ⟨hPc, hDc, hFc, hJn⟩ := cl_a (wc := [(m0, .inr (11, oX11 ra y61_0)), (ra 2, .inl (kI, 8, .inl q_told)), (ra 3, .inl (kI, 24, .inl q_kind)), (ra 4, .inl (kI, 24, .inl q_salt)), (ra 5, .inl (kI, 24, .inl q_pace)), (ra 6, .inl (kI, 24, .inl q_mute)), (ra 7, .inl (kI, 24, .inl q_late)), (ra 8, .inl (kI, 40, .inl q_from)), (ra 9, .inl (kI, 40, .inl q_to)), (ra 10, .inl (kI, 6, .inl q_goal)), (ra 11, .inl (kI, 1019, .inl g61_10)), (ra 14, .inl (kI, 12, .inl q_reach)), (ra 15, .inl (kJ, 24, .inr (.inl g61_12)))]) (wr := [(ra 27, .inl (kI, 1019, .inl g61_13))]) hP hD hS hA [0, 1, 2, 3, 4, 5, 6, 7, 8, 9, 10, 11, 12] [13] rfl rfl (by decide +kernel)
        refine va_callv (va_runV (As := []) (rest := []) ⟨hx, hb, hml, hown, hts⟩ (s11_happens l dC dI kB kI kJ kZ kC kS H.size m0 ra y61_0 q_told q_kind q_salt q_pace q_mute q_late q_from q_to q_goal g61_10 q_reach g61_12 (hI61_0) (hq_told) (hq_salt) (hq_from) (hq_to) (hq_goal) (hI61_10) (hLT) (h61_7)) (cwV 0 hts gX11_years_X11_happens rfl rfl rfl (by decide +kernel) ⟨Nat.le_of_ble_eq_true rfl, Nat.le_of_ble_eq_true rfl⟩) ⟨fun a U g mk q => by obtain ⟨q0, q1, qP, qE, qD⟩ := q; exact ⟨q0, q1, qP, kE_call qE, qD⟩, va_recv hK hP (ci := 11) (q0 := 0) rfl rfl, fun U hU hW => ⟨rfl, by rw [hU], by rw [hU]; exact hPc, kE_warm hW hE, hDc.weaken (fun _ _ _ _ => trivial)⟩⟩ rfl rfl hl.1 rfl (lv_room (Nat.le_of_ble_eq_true rfl)) dX11_years_68 ⟨Nat.le_of_ble_eq_true rfl, Nat.le_of_ble_eq_true rfl⟩) hS (fun q _ h => hFc q h) hFc (fun u t H locs ht hvm w30 hB hz1 hk1 hS => ?_)
        obtain ⟨y31, f32, f33, hq34, hq35, hq36, hq37, hq38, hq39, hP1, hD1⟩ := hB
        try dsimp only at w30
        obtain ⟨hPa, hDa⟩ := hJn (w1 := [(m0, .inr (11, oX11 ra y31)), (ra 2, .inl (kI, 8, .inl q_told)), (ra 3, .inl (kI, 24, .inl q_kind)), (ra 4, .inl (kI, 24, .inl q_salt)), (ra 5, .inl (kI, 24, .inl q_pace)), (ra 6, .inl (kI, 24, .inl q_mute)), (ra 7, .inl (kI, 24, .inl q_late)), (ra 8, .inl (kI, 40, .inl q_from)), (ra 9, .inl (kI, 40, .inl q_to)), (ra 10, .inl (kI, 6, .inl q_goal)), (ra 11, .inl (kI, 1019, .inl f32)), (ra 14, .inl (kI, 12, .inl q_reach)), (ra 15, .inl (kJ, 24, .inr (.inl f33)))]) hk1 ht hP1 hD1
        clear hP hD hPc hDc hFc hJn hP1 hD1 hk1
        have hP : va_P (dC, dI) vwCl [(ra 27, .inl (kI, 1019, .inl g61_13)), (m0, .inr (11, oX11 ra y31)), (ra 2, .inl (kI, 8, .inl q_told)), (ra 3, .inl (kI, 24, .inl q_kind)), (ra 4, .inl (kI, 24, .inl q_salt)), (ra 5, .inl (kI, 24, .inl q_pace)), (ra 6, .inl (kI, 24, .inl q_mute)), (ra 7, .inl (kI, 24, .inl q_late)), (ra 8, .inl (kI, 40, .inl q_from)), (ra 9, .inl (kI, 40, .inl q_to)), (ra 10, .inl (kI, 6, .inl q_goal)), (ra 11, .inl (kI, 1019, .inl f32)), (ra 14, .inl (kI, 12, .inl q_reach)), (ra 15, .inl (kJ, 24, .inr (.inl f33)))] H := hPa
        have hD : va_D A [(ra 27, .inl (kI, 1019, .inl g61_13)), (m0, .inr (11, oX11 ra y31)), (ra 2, .inl (kI, 8, .inl q_told)), (ra 3, .inl (kI, 24, .inl q_kind)), (ra 4, .inl (kI, 24, .inl q_salt)), (ra 5, .inl (kI, 24, .inl q_pace)), (ra 6, .inl (kI, 24, .inl q_mute)), (ra 7, .inl (kI, 24, .inl q_late)), (ra 8, .inl (kI, 40, .inl q_from)), (ra 9, .inl (kI, 40, .inl q_to)), (ra 10, .inl (kI, 6, .inl q_goal)), (ra 11, .inl (kI, 1019, .inl f32)), (ra 14, .inl (kI, 12, .inl q_reach)), (ra 15, .inl (kJ, 24, .inr (.inl f33)))] := hDa
        clear hPa hDa
        refine W.widen (k := 0) (n := 0) (Nat.le_of_ble_eq_true rfl) (Nat.le_of_ble_eq_true rfl) ?_
        refine lv_iinc (v := v61_loc5 + Int32.ofInt 1) (lv' := [(5, .int (v61_loc5 + Int32.ofInt 1)), (0, .ref m0), (1, .int p0), (2, .int p1), (3, .int p2), (4, .int v61_loc4)]) hx hb dX11_years_71 hl (k := 5) rfl (rfl) (Nat.le_of_ble_eq_true rfl) rfl (fun ls hl => ?_)
        have b40 : iv 1 40 (v61_loc5 + Int32.ofInt 1) := iv_add b27 ivo_1 (by decide) (by decide) (by decide) (by decide)
        refine lv_goto (tgt := 61) hx hb dX11_years_74 rfl ?_
        have hPD9 := cl_s (wc := [(m0, .inr (11, oX11 ra y31)), (ra 2, .inl (kI, 8, .inl q_told)), (ra 3, .inl (kI, 24, .inl q_kind)), (ra 4, .inl (kI, 24, .inl q_salt)), (ra 5, .inl (kI, 24, .inl q_pace)), (ra 6, .inl (kI, 24, .inl q_mute)), (ra 7, .inl (kI, 24, .inl q_late)), (ra 8, .inl (kI, 40, .inl q_from)), (ra 9, .inl (kI, 40, .inl q_to)), (ra 10, .inl (kI, 6, .inl q_goal)), (ra 11, .inl (kI, 1019, .inl f32)), (ra 14, .inl (kI, 12, .inl q_reach)), (ra 15, .inl (kJ, 24, .inr (.inl f33))), (ra 27, .inl (kI, 1019, .inl g61_13))]) hP hD [1, 2, 3, 4, 5, 6, 7, 8, 9, 10, 11, 12, 13, 0] rfl (by decide +kernel)
        exact ih61 y31 f32 f33 g61_13 v61_loc4 (v61_loc5 + Int32.ofInt 1) _ _ _ (ms_up (c := 1) (d := 0) b27 hm61 (by decide) (iv_inc 1 b27 (by decide) (by decide) (by decide) (by decide)) (by decide) rfl) (hq34) (hq36) (hI61_13) ((iv_w b28 (by decide) (by decide))) (h61_5) ((iv_w b40 (by decide) (by decide))) (hq35) ((show y31 1 = x0 1 from hq37.trans (htp_61))) ((show y31 10 = x0 10 from hq38.trans (hfp_61))) ((show y31 11 = x0 11 from hq39.trans (hor_61))) (hPD9.1) (hPD9.2) hS (lv_sub hl [1, 2, 3, 4, 5, 0] rfl)
  refine lv_aload_n hx hb dX11_years_0 rfl (lv_at hl 0 rfl) ?_
  refine lv_iconst (v := 0) hx hb dX11_years_1 ic_0 ?_
  refine va_put (D := (dC, dI)) (ci := 11) (v := .int 0) (ty := .int) (C := RX11) (T := TX11) (N := 61) hx hb hts hin11 tyX11 tyX11_ok nmX11 hown hK hP hD hS 0 rfl rfl 2 (by decide) hw_2 (fun _ h9 => h9) rfl (by decide +kernel) rfl rfl (Nat.le_of_ble_eq_true rfl) dX11_years_2 (fun H locs hPa hDa hS => ?_)
  clear hP hD
  have hP : va_P (dC, dI) vwCl [(m0, .inr (11, oX11 ra (upd x0 0 0))), (ra 2, .inl (kI, 8, .inl q_told)), (ra 3, .inl (kI, 24, .inl q_kind)), (ra 4, .inl (kI, 24, .inl q_salt)), (ra 5, .inl (kI, 24, .inl q_pace)), (ra 6, .inl (kI, 24, .inl q_mute)), (ra 7, .inl (kI, 24, .inl q_late)), (ra 8, .inl (kI, 40, .inl q_from)), (ra 9, .inl (kI, 40, .inl q_to)), (ra 10, .inl (kI, 6, .inl q_goal)), (ra 11, .inl (kI, 1019, .inl q_now)), (ra 14, .inl (kI, 12, .inl q_reach)), (ra 15, .inl (kJ, 24, .inr (.inl q_met))), (ra 27, .inl (kI, 1019, .inl q_rowThen))] H := hPa
  have hD : va_D A [(m0, .inr (11, oX11 ra (upd x0 0 0))), (ra 2, .inl (kI, 8, .inl q_told)), (ra 3, .inl (kI, 24, .inl q_kind)), (ra 4, .inl (kI, 24, .inl q_salt)), (ra 5, .inl (kI, 24, .inl q_pace)), (ra 6, .inl (kI, 24, .inl q_mute)), (ra 7, .inl (kI, 24, .inl q_late)), (ra 8, .inl (kI, 40, .inl q_from)), (ra 9, .inl (kI, 40, .inl q_to)), (ra 10, .inl (kI, 6, .inl q_goal)), (ra 11, .inl (kI, 1019, .inl q_now)), (ra 14, .inl (kI, 12, .inl q_reach)), (ra 15, .inl (kJ, 24, .inr (.inl q_met))), (ra 27, .inl (kI, 1019, .inl q_rowThen))] := hDa
  clear hPa hDa
  refine lv_iload_n hx hb dX11_years_5 rfl (lv_at hl 3 rfl) ?_
  refine lv_iconst (v := 0) hx hb dX11_years_6 ic_0 ?_
  refine lv_iconst (v := 2) hx hb dX11_years_7 ic_2 ?_
  obtain ⟨hPc, hDc, hFc, hJn⟩ := cl_a (wc := []) (wr := [(m0, .inr (11, oX11 ra (upd x0 0 0))), (ra 2, .inl (kI, 8, .inl q_told)), (ra 3, .inl (kI, 24, .inl q_kind)), (ra 4, .inl (kI, 24, .inl q_salt)), (ra 5, .inl (kI, 24, .inl q_pace)), (ra 6, .inl (kI, 24, .inl q_mute)), (ra 7, .inl (kI, 24, .inl q_late)), (ra 8, .inl (kI, 40, .inl q_from)), (ra 9, .inl (kI, 40, .inl q_to)), (ra 10, .inl (kI, 6, .inl q_goal)), (ra 11, .inl (kI, 1019, .inl q_now)), (ra 14, .inl (kI, 12, .inl q_reach)), (ra 15, .inl (kJ, 24, .inr (.inl q_met))), (ra 27, .inl (kI, 1019, .inl q_rowThen))]) hP hD hS hA [] [0, 1, 2, 3, 4, 5, 6, 7, 8, 9, 10, 11, 12, 13] rfl rfl (by decide +kernel)
  refine va_calli (va_runS (As := [.int p2, .int 0, .int 2]) (rest := []) ⟨hx, hb, hml, hown, hts⟩ (s11_isIn l dC dI kB kI kJ kZ kC kS H.size p2 0 2) (va_cwS 3 hts gX11_years_X11_isIn rfl rfl rfl (by decide +kernel) ⟨Nat.le_of_ble_eq_true rfl, Nat.le_of_ble_eq_true rfl⟩) ⟨fun a U g mk q => by obtain ⟨q0, q1, qP, qE, qD⟩ := q; exact ⟨q0, q1, qP, kE_call qE, qD⟩, fun U hU hW => ⟨rfl, by rw [hU], by rw [hU]; exact hPc, kE_warm hW hE, hDc.weaken (fun _ _ _ _ => trivial)⟩⟩ rfl rfl hl.1 rfl (lv_room (Nat.le_of_ble_eq_true rfl)) dX11_years_8 ⟨Nat.le_of_ble_eq_true rfl, Nat.le_of_ble_eq_true rfl⟩) hS (fun q _ h => hFc q h) hFc (fun r41 u t H locs ht hvm w42 hB hz1 hk1 hS => ?_)
  obtain ⟨hP1, hD1⟩ := hB
  try dsimp only at w42
  obtain ⟨hPa, hDa⟩ := hJn (w1 := []) hk1 ht hP1 hD1
  clear hP hD hPc hDc hFc hJn hP1 hD1 hk1
  have hP : va_P (dC, dI) vwCl [(m0, .inr (11, oX11 ra (upd x0 0 0))), (ra 2, .inl (kI, 8, .inl q_told)), (ra 3, .inl (kI, 24, .inl q_kind)), (ra 4, .inl (kI, 24, .inl q_salt)), (ra 5, .inl (kI, 24, .inl q_pace)), (ra 6, .inl (kI, 24, .inl q_mute)), (ra 7, .inl (kI, 24, .inl q_late)), (ra 8, .inl (kI, 40, .inl q_from)), (ra 9, .inl (kI, 40, .inl q_to)), (ra 10, .inl (kI, 6, .inl q_goal)), (ra 11, .inl (kI, 1019, .inl q_now)), (ra 14, .inl (kI, 12, .inl q_reach)), (ra 15, .inl (kJ, 24, .inr (.inl q_met))), (ra 27, .inl (kI, 1019, .inl q_rowThen))] H := hPa
  have hD : va_D A [(m0, .inr (11, oX11 ra (upd x0 0 0))), (ra 2, .inl (kI, 8, .inl q_told)), (ra 3, .inl (kI, 24, .inl q_kind)), (ra 4, .inl (kI, 24, .inl q_salt)), (ra 5, .inl (kI, 24, .inl q_pace)), (ra 6, .inl (kI, 24, .inl q_mute)), (ra 7, .inl (kI, 24, .inl q_late)), (ra 8, .inl (kI, 40, .inl q_from)), (ra 9, .inl (kI, 40, .inl q_to)), (ra 10, .inl (kI, 6, .inl q_goal)), (ra 11, .inl (kI, 1019, .inl q_now)), (ra 14, .inl (kI, 12, .inl q_reach)), (ra 15, .inl (kJ, 24, .inr (.inl q_met))), (ra 27, .inl (kI, 1019, .inl q_rowThen))] := hDa
  clear hPa hDa
  refine W.widen (k := 0) (n := 0) (Nat.le_of_ble_eq_true rfl) (Nat.le_of_ble_eq_true rfl) ?_
  refine lv_if_ne (tgt := 20) hx hb dX11_years_11 rfl (fun c43 => ?_) (fun c43 => ?_)
  · have b44 : iv 1 1 r41 := iv_neLo c43 w42.1 ivk_0 (by decide) (by decide)
    have hr45 := (w42.2).resolve_left (iv_ne b44 ivk_0 (by decide))
    have b46 : iv 0 2 p2 := iv_cap (in_iv hr45 ivk_0 ivk_2) (iv_t p2) (by decide) (by decide)
    refine lv_iload_n hx hb dX11_years_20 rfl (lv_at hl 2 rfl) ?_
    refine lv_iconst (v := 0) hx hb dX11_years_21 ic_0 ?_
    refine lv_bipush (v := 40) hx hb dX11_years_22 bp_40 ?_
    obtain ⟨hPc, hDc, hFc, hJn⟩ := cl_a (wc := []) (wr := [(m0, .inr (11, oX11 ra (upd x0 0 0))), (ra 2, .inl (kI, 8, .inl q_told)), (ra 3, .inl (kI, 24, .inl q_kind)), (ra 4, .inl (kI, 24, .inl q_salt)), (ra 5, .inl (kI, 24, .inl q_pace)), (ra 6, .inl (kI, 24, .inl q_mute)), (ra 7, .inl (kI, 24, .inl q_late)), (ra 8, .inl (kI, 40, .inl q_from)), (ra 9, .inl (kI, 40, .inl q_to)), (ra 10, .inl (kI, 6, .inl q_goal)), (ra 11, .inl (kI, 1019, .inl q_now)), (ra 14, .inl (kI, 12, .inl q_reach)), (ra 15, .inl (kJ, 24, .inr (.inl q_met))), (ra 27, .inl (kI, 1019, .inl q_rowThen))]) hP hD hS hA [] [0, 1, 2, 3, 4, 5, 6, 7, 8, 9, 10, 11, 12, 13] rfl rfl (by decide +kernel)
    refine va_calli (va_runS (As := [.int p1, .int 0, .int 40]) (rest := []) ⟨hx, hb, hml, hown, hts⟩ (s11_isIn l dC dI kB kI kJ kZ kC kS H.size p1 0 40) (va_cwS 3 hts gX11_years_X11_isIn rfl rfl rfl (by decide +kernel) ⟨Nat.le_of_ble_eq_true rfl, Nat.le_of_ble_eq_true rfl⟩) ⟨fun a U g mk q => by obtain ⟨q0, q1, qP, qE, qD⟩ := q; exact ⟨q0, q1, qP, kE_call qE, qD⟩, fun U hU hW => ⟨rfl, by rw [hU], by rw [hU]; exact hPc, kE_warm hW hE, hDc.weaken (fun _ _ _ _ => trivial)⟩⟩ rfl rfl hl.1 rfl (lv_room (Nat.le_of_ble_eq_true rfl)) dX11_years_24 ⟨Nat.le_of_ble_eq_true rfl, Nat.le_of_ble_eq_true rfl⟩) hS (fun q _ h => hFc q h) hFc (fun r47 u t H locs ht hvm w48 hB hz1 hk1 hS => ?_)
    obtain ⟨hP1, hD1⟩ := hB
    try dsimp only at w48
    obtain ⟨hPa, hDa⟩ := hJn (w1 := []) hk1 ht hP1 hD1
    clear hP hD hPc hDc hFc hJn hP1 hD1 hk1
    have hP : va_P (dC, dI) vwCl [(m0, .inr (11, oX11 ra (upd x0 0 0))), (ra 2, .inl (kI, 8, .inl q_told)), (ra 3, .inl (kI, 24, .inl q_kind)), (ra 4, .inl (kI, 24, .inl q_salt)), (ra 5, .inl (kI, 24, .inl q_pace)), (ra 6, .inl (kI, 24, .inl q_mute)), (ra 7, .inl (kI, 24, .inl q_late)), (ra 8, .inl (kI, 40, .inl q_from)), (ra 9, .inl (kI, 40, .inl q_to)), (ra 10, .inl (kI, 6, .inl q_goal)), (ra 11, .inl (kI, 1019, .inl q_now)), (ra 14, .inl (kI, 12, .inl q_reach)), (ra 15, .inl (kJ, 24, .inr (.inl q_met))), (ra 27, .inl (kI, 1019, .inl q_rowThen))] H := hPa
    have hD : va_D A [(m0, .inr (11, oX11 ra (upd x0 0 0))), (ra 2, .inl (kI, 8, .inl q_told)), (ra 3, .inl (kI, 24, .inl q_kind)), (ra 4, .inl (kI, 24, .inl q_salt)), (ra 5, .inl (kI, 24, .inl q_pace)), (ra 6, .inl (kI, 24, .inl q_mute)), (ra 7, .inl (kI, 24, .inl q_late)), (ra 8, .inl (kI, 40, .inl q_from)), (ra 9, .inl (kI, 40, .inl q_to)), (ra 10, .inl (kI, 6, .inl q_goal)), (ra 11, .inl (kI, 1019, .inl q_now)), (ra 14, .inl (kI, 12, .inl q_reach)), (ra 15, .inl (kJ, 24, .inr (.inl q_met))), (ra 27, .inl (kI, 1019, .inl q_rowThen))] := hDa
    clear hPa hDa
    refine W.widen (k := 0) (n := 0) (Nat.le_of_ble_eq_true rfl) (Nat.le_of_ble_eq_true rfl) ?_
    refine lv_if_ne (tgt := 36) hx hb dX11_years_27 rfl (fun c49 => ?_) (fun c49 => ?_)
    · have b50 : iv 1 1 r47 := iv_neLo c49 w48.1 ivk_0 (by decide) (by decide)
      have hr51 := (w48.2).resolve_left (iv_ne b50 ivk_0 (by decide))
      have b52 : iv 0 40 p1 := iv_cap (in_iv hr51 ivk_0 ivk_40) (iv_t p1) (by decide) (by decide)
      refine lv_aload_n hx hb dX11_years_36 rfl (lv_at hl 0 rfl) ?_
      refine va_get (D := (dC, dI)) (ci := 11) (v := .ref (ra 27)) (C := RX11) (T := TX11) (N := 61) hx hb hts hin11 hown hK hP 0 rfl rfl 50 (Nat.le_of_ble_eq_true rfl) hw_1 (fun _ h9 => h9) rfl dX11_years_37 ?_
      refine lv_aload_n hx hb dX11_years_40 rfl (lv_at hl 0 rfl) ?_
      refine va_get (D := (dC, dI)) (ci := 11) (v := .ref (ra 11)) (C := RX11) (T := TX11) (N := 61) hx hb hts hin11 hown hK hP 0 rfl rfl 12 (Nat.le_of_ble_eq_true rfl) hw_0 (fun _ h9 => h9) rfl dX11_years_41 ?_
      obtain ⟨hPc, hDc, hFc, hJn⟩ := cl_a (wc := [(ra 27, .inl (kI, 1019, .inl q_rowThen)), (ra 11, .inl (kI, 1019, .inl q_now))]) (wr := [(m0, .inr (11, oX11 ra (upd x0 0 0))), (ra 2, .inl (kI, 8, .inl q_told)), (ra 3, .inl (kI, 24, .inl q_kind)), (ra 4, .inl (kI, 24, .inl q_salt)), (ra 5, .inl (kI, 24, .inl q_pace)), (ra 6, .inl (kI, 24, .inl q_mute)), (ra 7, .inl (kI, 24, .inl q_late)), (ra 8, .inl (kI, 40, .inl q_from)), (ra 9, .inl (kI, 40, .inl q_to)), (ra 10, .inl (kI, 6, .inl q_goal)), (ra 14, .inl (kI, 12, .inl q_reach)), (ra 15, .inl (kJ, 24, .inr (.inl q_met)))]) hP hD hS hA [13, 10] [0, 1, 2, 3, 4, 5, 6, 7, 8, 9, 11, 12] rfl rfl (by decide +kernel)
      refine va_callv (va_runS (As := [.ref (ra 27), .ref (ra 11)]) (rest := []) ⟨hx, hb, hml, hown, hts⟩ (s11_copyTo_now l dC dI kB kI kJ kZ kC kS H.size (ra 27) (ra 11) q_rowThen q_now (hq_rowThen) (hq_now)) (va_cwS 2 hts gX11_years_X11_copyTo rfl rfl rfl (by decide +kernel) ⟨Nat.le_of_ble_eq_true rfl, Nat.le_of_ble_eq_true rfl⟩) ⟨fun a U g mk q => by obtain ⟨q0, q1, qP, qE, qD⟩ := q; exact ⟨q0, q1, qP, kE_call qE, qD⟩, fun U hU hW => ⟨rfl, by rw [hU], by rw [hU]; exact hPc, kE_warm hW hE, hDc.weaken (fun _ _ _ _ => trivial)⟩⟩ rfl rfl hl.1 rfl (lv_room (Nat.le_of_ble_eq_true rfl)) dX11_years_44 ⟨Nat.le_of_ble_eq_true rfl, Nat.le_of_ble_eq_true rfl⟩) hS (fun q _ h => hFc q h) hFc (fun u t H locs ht hvm w54 hB hz1 hk1 hS => ?_)
      obtain ⟨f55, hq56, hP1, hD1⟩ := hB
      try dsimp only at w54
      obtain ⟨hPa, hDa⟩ := hJn (w1 := [(ra 27, .inl (kI, 1019, .inl f55)), (ra 11, .inl (kI, 1019, .inl q_now))]) hk1 ht hP1 hD1
      clear hP hD hPc hDc hFc hJn hP1 hD1 hk1
      have hP : va_P (dC, dI) vwCl [(m0, .inr (11, oX11 ra (upd x0 0 0))), (ra 2, .inl (kI, 8, .inl q_told)), (ra 3, .inl (kI, 24, .inl q_kind)), (ra 4, .inl (kI, 24, .inl q_salt)), (ra 5, .inl (kI, 24, .inl q_pace)), (ra 6, .inl (kI, 24, .inl q_mute)), (ra 7, .inl (kI, 24, .inl q_late)), (ra 8, .inl (kI, 40, .inl q_from)), (ra 9, .inl (kI, 40, .inl q_to)), (ra 10, .inl (kI, 6, .inl q_goal)), (ra 14, .inl (kI, 12, .inl q_reach)), (ra 15, .inl (kJ, 24, .inr (.inl q_met))), (ra 27, .inl (kI, 1019, .inl f55)), (ra 11, .inl (kI, 1019, .inl q_now))] H := hPa
      have hD : va_D A [(m0, .inr (11, oX11 ra (upd x0 0 0))), (ra 2, .inl (kI, 8, .inl q_told)), (ra 3, .inl (kI, 24, .inl q_kind)), (ra 4, .inl (kI, 24, .inl q_salt)), (ra 5, .inl (kI, 24, .inl q_pace)), (ra 6, .inl (kI, 24, .inl q_mute)), (ra 7, .inl (kI, 24, .inl q_late)), (ra 8, .inl (kI, 40, .inl q_from)), (ra 9, .inl (kI, 40, .inl q_to)), (ra 10, .inl (kI, 6, .inl q_goal)), (ra 14, .inl (kI, 12, .inl q_reach)), (ra 15, .inl (kJ, 24, .inr (.inl q_met))), (ra 27, .inl (kI, 1019, .inl f55)), (ra 11, .inl (kI, 1019, .inl q_now))] := hDa
      clear hPa hDa
      refine W.widen (k := 0) (n := 0) (Nat.le_of_ble_eq_true rfl) (Nat.le_of_ble_eq_true rfl) ?_
      refine lv_aload_n hx hb dX11_years_47 rfl (lv_at hl 0 rfl) ?_
      obtain ⟨hPc, hDc, hFc, hJn⟩ := cl_a (wc := [(m0, .inr (11, oX11 ra (upd x0 0 0))), (ra 11, .inl (kI, 1019, .inl q_now))]) (wr := [(ra 2, .inl (kI, 8, .inl q_told)), (ra 3, .inl (kI, 24, .inl q_kind)), (ra 4, .inl (kI, 24, .inl q_salt)), (ra 5, .inl (kI, 24, .inl q_pace)), (ra 6, .inl (kI, 24, .inl q_mute)), (ra 7, .inl (kI, 24, .inl q_late)), (ra 8, .inl (kI, 40, .inl q_from)), (ra 9, .inl (kI, 40, .inl q_to)), (ra 10, .inl (kI, 6, .inl q_goal)), (ra 14, .inl (kI, 12, .inl q_reach)), (ra 15, .inl (kJ, 24, .inr (.inl q_met))), (ra 27, .inl (kI, 1019, .inl f55))]) hP hD hS hA [0, 13] [1, 2, 3, 4, 5, 6, 7, 8, 9, 10, 11, 12] rfl rfl (by decide +kernel)
      refine va_calli (va_runV (As := []) (rest := []) ⟨hx, hb, hml, hown, hts⟩ (s11_sentAll l dC dI kB kI kJ kZ kC kS H.size m0 ra (upd x0 0 0) q_now ((fI_u hX (k := 0) ((iv_w ivk_0 (by decide) (by decide))))) (hq_now)) (cwV 0 hts gX11_years_X11_sentAll rfl rfl rfl (by decide +kernel) ⟨Nat.le_of_ble_eq_true rfl, Nat.le_of_ble_eq_true rfl⟩) ⟨fun a U g mk q => by obtain ⟨q0, q1, qP, qE, qD⟩ := q; exact ⟨q0, q1, qP, kE_call qE, qD⟩, va_recv hK hP (ci := 11) (q0 := 0) rfl rfl, fun U hU hW => ⟨rfl, by rw [hU], by rw [hU]; exact hPc, kE_warm hW hE, hDc.weaken (fun _ _ _ _ => trivial)⟩⟩ rfl rfl hl.1 rfl (lv_room (Nat.le_of_ble_eq_true rfl)) dX11_years_48 ⟨Nat.le_of_ble_eq_true rfl, Nat.le_of_ble_eq_true rfl⟩) hS (fun q _ h => hFc q h) hFc (fun r57 u t H locs ht hvm w58 hB hz1 hk1 hS => ?_)
      obtain ⟨hP1, hD1⟩ := hB
      try dsimp only at w58
      obtain ⟨hPa, hDa⟩ := hJn (w1 := [(m0, .inr (11, oX11 ra (upd x0 0 0))), (ra 11, .inl (kI, 1019, .inl q_now))]) hk1 ht hP1 hD1
      clear hP hD hPc hDc hFc hJn hP1 hD1 hk1
      have hP : va_P (dC, dI) vwCl [(ra 2, .inl (kI, 8, .inl q_told)), (ra 3, .inl (kI, 24, .inl q_kind)), (ra 4, .inl (kI, 24, .inl q_salt)), (ra 5, .inl (kI, 24, .inl q_pace)), (ra 6, .inl (kI, 24, .inl q_mute)), (ra 7, .inl (kI, 24, .inl q_late)), (ra 8, .inl (kI, 40, .inl q_from)), (ra 9, .inl (kI, 40, .inl q_to)), (ra 10, .inl (kI, 6, .inl q_goal)), (ra 14, .inl (kI, 12, .inl q_reach)), (ra 15, .inl (kJ, 24, .inr (.inl q_met))), (ra 27, .inl (kI, 1019, .inl f55)), (m0, .inr (11, oX11 ra (upd x0 0 0))), (ra 11, .inl (kI, 1019, .inl q_now))] H := hPa
      have hD : va_D A [(ra 2, .inl (kI, 8, .inl q_told)), (ra 3, .inl (kI, 24, .inl q_kind)), (ra 4, .inl (kI, 24, .inl q_salt)), (ra 5, .inl (kI, 24, .inl q_pace)), (ra 6, .inl (kI, 24, .inl q_mute)), (ra 7, .inl (kI, 24, .inl q_late)), (ra 8, .inl (kI, 40, .inl q_from)), (ra 9, .inl (kI, 40, .inl q_to)), (ra 10, .inl (kI, 6, .inl q_goal)), (ra 14, .inl (kI, 12, .inl q_reach)), (ra 15, .inl (kJ, 24, .inr (.inl q_met))), (ra 27, .inl (kI, 1019, .inl f55)), (m0, .inr (11, oX11 ra (upd x0 0 0))), (ra 11, .inl (kI, 1019, .inl q_now))] := hDa
      clear hPa hDa
      refine W.widen (k := 0) (n := 0) (Nat.le_of_ble_eq_true rfl) (Nat.le_of_ble_eq_true rfl) ?_
      refine lv_istore (lv' := [(4, .int r57), (0, .ref m0), (1, .int p0), (2, .int p1), (3, .int p2)]) hx hb dX11_years_51 hl (Nat.le_of_ble_eq_true rfl) rfl (fun ls hl => ?_)
      refine lv_aload_n hx hb dX11_years_53 rfl (lv_at hl 1 rfl) ?_
      refine lv_iload_n hx hb dX11_years_54 rfl (lv_at hl 2 rfl) ?_
      refine va_put (D := (dC, dI)) (ci := 11) (v := .int p0) (ty := .int) (C := RX11) (T := TX11) (N := 61) hx hb hts hin11 tyX11 tyX11_ok nmX11 hown hK hP hD hS 12 rfl rfl 49 (by decide) hw_3 (fun _ h9 => h9) rfl (by decide +kernel) rfl rfl (Nat.le_of_ble_eq_true rfl) dX11_years_55 (fun H locs hPa hDa hS => ?_)
      clear hP hD
      have hP : va_P (dC, dI) vwCl [(ra 2, .inl (kI, 8, .inl q_told)), (ra 3, .inl (kI, 24, .inl q_kind)), (ra 4, .inl (kI, 24, .inl q_salt)), (ra 5, .inl (kI, 24, .inl q_pace)), (ra 6, .inl (kI, 24, .inl q_mute)), (ra 7, .inl (kI, 24, .inl q_late)), (ra 8, .inl (kI, 40, .inl q_from)), (ra 9, .inl (kI, 40, .inl q_to)), (ra 10, .inl (kI, 6, .inl q_goal)), (ra 14, .inl (kI, 12, .inl q_reach)), (ra 15, .inl (kJ, 24, .inr (.inl q_met))), (ra 27, .inl (kI, 1019, .inl f55)), (m0, .inr (11, oX11 ra (upd (upd x0 0 0) 22 p0))), (ra 11, .inl (kI, 1019, .inl q_now))] H := hPa
      have hD : va_D A [(ra 2, .inl (kI, 8, .inl q_told)), (ra 3, .inl (kI, 24, .inl q_kind)), (ra 4, .inl (kI, 24, .inl q_salt)), (ra 5, .inl (kI, 24, .inl q_pace)), (ra 6, .inl (kI, 24, .inl q_mute)), (ra 7, .inl (kI, 24, .inl q_late)), (ra 8, .inl (kI, 40, .inl q_from)), (ra 9, .inl (kI, 40, .inl q_to)), (ra 10, .inl (kI, 6, .inl q_goal)), (ra 14, .inl (kI, 12, .inl q_reach)), (ra 15, .inl (kJ, 24, .inr (.inl q_met))), (ra 27, .inl (kI, 1019, .inl f55)), (m0, .inr (11, oX11 ra (upd (upd x0 0 0) 22 p0))), (ra 11, .inl (kI, 1019, .inl q_now))] := hDa
      clear hPa hDa
      refine lv_iconst (v := 0) hx hb dX11_years_58 ic_0 ?_
      refine lv_istore (lv' := [(5, .int 0), (4, .int r57), (0, .ref m0), (1, .int p0), (2, .int p1), (3, .int p2)]) hx hb dX11_years_59 hl (Nat.le_of_ble_eq_true rfl) rfl (fun ls hl => ?_)
      have hPD9 := cl_s (wc := [(m0, .inr (11, oX11 ra (upd (upd x0 0 0) 22 p0))), (ra 2, .inl (kI, 8, .inl q_told)), (ra 3, .inl (kI, 24, .inl q_kind)), (ra 4, .inl (kI, 24, .inl q_salt)), (ra 5, .inl (kI, 24, .inl q_pace)), (ra 6, .inl (kI, 24, .inl q_mute)), (ra 7, .inl (kI, 24, .inl q_late)), (ra 8, .inl (kI, 40, .inl q_from)), (ra 9, .inl (kI, 40, .inl q_to)), (ra 10, .inl (kI, 6, .inl q_goal)), (ra 11, .inl (kI, 1019, .inl q_now)), (ra 14, .inl (kI, 12, .inl q_reach)), (ra 15, .inl (kJ, 24, .inr (.inl q_met))), (ra 27, .inl (kI, 1019, .inl f55))]) hP hD [12, 0, 1, 2, 3, 4, 5, 6, 7, 8, 13, 9, 10, 11] rfl (by decide +kernel)
      exact hJ61 _ (upd (upd x0 0 0) 22 p0) q_now q_met f55 r57 0 _ _ _ (Nat.lt_succ_self _) ((fI_u (fI_u hX (k := 0) ((iv_w ivk_0 (by decide) (by decide)))) (k := 22) ((iv_t p0)))) (hq_now) (hq56) (b52) (b46) ((iv_w ivk_0 (by decide) (by decide))) (hfl14) ((show x0 1 = x0 1 from rfl)) ((show x0 10 = x0 10 from rfl)) ((show x0 11 = x0 11 from rfl)) (hPD9.1) (hPD9.2) hS (lv_sub hl [2, 3, 4, 5, 1, 0] rfl)
    · have b59 : iv 0 0 r47 := iv_eqL c49 ivk_0
      refine lv_aload_n hx hb dX11_years_30 rfl (lv_at hl 0 rfl) ?_
      refine lv_iconst (v := 2) hx hb dX11_years_31 ic_2 ?_
      obtain ⟨hPc, hDc, hFc, hJn⟩ := cl_a (wc := [(m0, .inr (11, oX11 ra (upd x0 0 0)))]) (wr := [(ra 2, .inl (kI, 8, .inl q_told)), (ra 3, .inl (kI, 24, .inl q_kind)), (ra 4, .inl (kI, 24, .inl q_salt)), (ra 5, .inl (kI, 24, .inl q_pace)), (ra 6, .inl (kI, 24, .inl q_mute)), (ra 7, .inl (kI, 24, .inl q_late)), (ra 8, .inl (kI, 40, .inl q_from)), (ra 9, .inl (kI, 40, .inl q_to)), (ra 10, .inl (kI, 6, .inl q_goal)), (ra 11, .inl (kI, 1019, .inl q_now)), (ra 14, .inl (kI, 12, .inl q_reach)), (ra 15, .inl (kJ, 24, .inr (.inl q_met))), (ra 27, .inl (kI, 1019, .inl q_rowThen))]) hP hD hS hA [0] [1, 2, 3, 4, 5, 6, 7, 8, 9, 10, 11, 12, 13] rfl rfl (by decide +kernel)
      refine va_calli (va_runV (As := [.int 2]) (rest := []) ⟨hx, hb, hml, hown, hts⟩ (s11_fail l dC dI kB kI kJ kZ kC kS H.size m0 ra (upd x0 0 0) 2 ((fI_u hX (k := 0) ((iv_w ivk_0 (by decide) (by decide)))))) (cwV 1 hts gX11_years_X11_fail rfl rfl rfl (by decide +kernel) ⟨Nat.le_of_ble_eq_true rfl, Nat.le_of_ble_eq_true rfl⟩) ⟨fun a U g mk q => by obtain ⟨q0, q1, qP, qE, qD⟩ := q; exact ⟨q0, q1, qP, kE_call qE, qD⟩, va_recv hK hP (ci := 11) (q0 := 0) rfl rfl, fun U hU hW => ⟨rfl, by rw [hU], by rw [hU]; exact hPc, kE_warm hW hE, hDc.weaken (fun _ _ _ _ => trivial)⟩⟩ rfl rfl hl.1 rfl (lv_room (Nat.le_of_ble_eq_true rfl)) dX11_years_32 ⟨Nat.le_of_ble_eq_true rfl, Nat.le_of_ble_eq_true rfl⟩) hS (fun q _ h => hFc q h) hFc (fun r60 u t H locs ht hvm w61 hB hz1 hk1 hS => ?_)
      obtain ⟨y62, hq63, hq64, hq65, hq66, hq67, hq68, hP1, hD1⟩ := hB
      try dsimp only at w61
      obtain ⟨hPa, hDa⟩ := hJn (w1 := [(m0, .inr (11, oX11 ra y62))]) hk1 ht hP1 hD1
      clear hP hD hPc hDc hFc hJn hP1 hD1 hk1
      have hP : va_P (dC, dI) vwCl [(ra 2, .inl (kI, 8, .inl q_told)), (ra 3, .inl (kI, 24, .inl q_kind)), (ra 4, .inl (kI, 24, .inl q_salt)), (ra 5, .inl (kI, 24, .inl q_pace)), (ra 6, .inl (kI, 24, .inl q_mute)), (ra 7, .inl (kI, 24, .inl q_late)), (ra 8, .inl (kI, 40, .inl q_from)), (ra 9, .inl (kI, 40, .inl q_to)), (ra 10, .inl (kI, 6, .inl q_goal)), (ra 11, .inl (kI, 1019, .inl q_now)), (ra 14, .inl (kI, 12, .inl q_reach)), (ra 15, .inl (kJ, 24, .inr (.inl q_met))), (ra 27, .inl (kI, 1019, .inl q_rowThen)), (m0, .inr (11, oX11 ra y62))] H := hPa
      have hD : va_D A [(ra 2, .inl (kI, 8, .inl q_told)), (ra 3, .inl (kI, 24, .inl q_kind)), (ra 4, .inl (kI, 24, .inl q_salt)), (ra 5, .inl (kI, 24, .inl q_pace)), (ra 6, .inl (kI, 24, .inl q_mute)), (ra 7, .inl (kI, 24, .inl q_late)), (ra 8, .inl (kI, 40, .inl q_from)), (ra 9, .inl (kI, 40, .inl q_to)), (ra 10, .inl (kI, 6, .inl q_goal)), (ra 11, .inl (kI, 1019, .inl q_now)), (ra 14, .inl (kI, 12, .inl q_reach)), (ra 15, .inl (kJ, 24, .inr (.inl q_met))), (ra 27, .inl (kI, 1019, .inl q_rowThen)), (m0, .inr (11, oX11 ra y62))] := hDa
      clear hPa hDa
      refine W.widen (k := 0) (n := 0) (Nat.le_of_ble_eq_true rfl) (Nat.le_of_ble_eq_true rfl) ?_
      obtain rfl : r60 = 0 := iv_one w61 (by decide)
      have hPD9 := cl_s (wc := [(m0, .inr (11, oX11 ra y62)), (ra 2, .inl (kI, 8, .inl q_told)), (ra 3, .inl (kI, 24, .inl q_kind)), (ra 4, .inl (kI, 24, .inl q_salt)), (ra 5, .inl (kI, 24, .inl q_pace)), (ra 6, .inl (kI, 24, .inl q_mute)), (ra 7, .inl (kI, 24, .inl q_late)), (ra 8, .inl (kI, 40, .inl q_from)), (ra 9, .inl (kI, 40, .inl q_to)), (ra 10, .inl (kI, 6, .inl q_goal)), (ra 11, .inl (kI, 1019, .inl q_now)), (ra 14, .inl (kI, 12, .inl q_reach)), (ra 15, .inl (kJ, 24, .inr (.inl q_met))), (ra 27, .inl (kI, 1019, .inl q_rowThen))]) hP hD [13, 0, 1, 2, 3, 4, 5, 6, 7, 8, 9, 10, 11, 12] rfl (by decide +kernel)
      have hP9 := hPD9.1
      have hD9 := hPD9.2
      exact W.iret (v := 0) hx hb hr (fun t ht hW => ⟨⟨0, (), rfl, trivial, y62, q_now, q_met, q_rowThen, hq63, (iv_eqL hq68 hfl14), hq_now, hq_rowThen, (show y62 1 = x0 1 from hq65), (show y62 10 = x0 10 from hq66), (show y62 11 = x0 11 from hq67), by rw [ht]; exact hP9, hD9⟩, hS.F ht⟩) hS.2.2 dX11_years_35
  · have b69 : iv 0 0 r41 := iv_eqL c43 ivk_0
    refine lv_aload_n hx hb dX11_years_14 rfl (lv_at hl 0 rfl) ?_
    refine lv_iconst (v := 1) hx hb dX11_years_15 ic_1 ?_
    obtain ⟨hPc, hDc, hFc, hJn⟩ := cl_a (wc := [(m0, .inr (11, oX11 ra (upd x0 0 0)))]) (wr := [(ra 2, .inl (kI, 8, .inl q_told)), (ra 3, .inl (kI, 24, .inl q_kind)), (ra 4, .inl (kI, 24, .inl q_salt)), (ra 5, .inl (kI, 24, .inl q_pace)), (ra 6, .inl (kI, 24, .inl q_mute)), (ra 7, .inl (kI, 24, .inl q_late)), (ra 8, .inl (kI, 40, .inl q_from)), (ra 9, .inl (kI, 40, .inl q_to)), (ra 10, .inl (kI, 6, .inl q_goal)), (ra 11, .inl (kI, 1019, .inl q_now)), (ra 14, .inl (kI, 12, .inl q_reach)), (ra 15, .inl (kJ, 24, .inr (.inl q_met))), (ra 27, .inl (kI, 1019, .inl q_rowThen))]) hP hD hS hA [0] [1, 2, 3, 4, 5, 6, 7, 8, 9, 10, 11, 12, 13] rfl rfl (by decide +kernel)
    refine va_calli (va_runV (As := [.int 1]) (rest := []) ⟨hx, hb, hml, hown, hts⟩ (s11_fail l dC dI kB kI kJ kZ kC kS H.size m0 ra (upd x0 0 0) 1 ((fI_u hX (k := 0) ((iv_w ivk_0 (by decide) (by decide)))))) (cwV 1 hts gX11_years_X11_fail rfl rfl rfl (by decide +kernel) ⟨Nat.le_of_ble_eq_true rfl, Nat.le_of_ble_eq_true rfl⟩) ⟨fun a U g mk q => by obtain ⟨q0, q1, qP, qE, qD⟩ := q; exact ⟨q0, q1, qP, kE_call qE, qD⟩, va_recv hK hP (ci := 11) (q0 := 0) rfl rfl, fun U hU hW => ⟨rfl, by rw [hU], by rw [hU]; exact hPc, kE_warm hW hE, hDc.weaken (fun _ _ _ _ => trivial)⟩⟩ rfl rfl hl.1 rfl (lv_room (Nat.le_of_ble_eq_true rfl)) dX11_years_16 ⟨Nat.le_of_ble_eq_true rfl, Nat.le_of_ble_eq_true rfl⟩) hS (fun q _ h => hFc q h) hFc (fun r70 u t H locs ht hvm w71 hB hz1 hk1 hS => ?_)
    obtain ⟨y72, hq73, hq74, hq75, hq76, hq77, hq78, hP1, hD1⟩ := hB
    try dsimp only at w71
    obtain ⟨hPa, hDa⟩ := hJn (w1 := [(m0, .inr (11, oX11 ra y72))]) hk1 ht hP1 hD1
    clear hP hD hPc hDc hFc hJn hP1 hD1 hk1
    have hP : va_P (dC, dI) vwCl [(ra 2, .inl (kI, 8, .inl q_told)), (ra 3, .inl (kI, 24, .inl q_kind)), (ra 4, .inl (kI, 24, .inl q_salt)), (ra 5, .inl (kI, 24, .inl q_pace)), (ra 6, .inl (kI, 24, .inl q_mute)), (ra 7, .inl (kI, 24, .inl q_late)), (ra 8, .inl (kI, 40, .inl q_from)), (ra 9, .inl (kI, 40, .inl q_to)), (ra 10, .inl (kI, 6, .inl q_goal)), (ra 11, .inl (kI, 1019, .inl q_now)), (ra 14, .inl (kI, 12, .inl q_reach)), (ra 15, .inl (kJ, 24, .inr (.inl q_met))), (ra 27, .inl (kI, 1019, .inl q_rowThen)), (m0, .inr (11, oX11 ra y72))] H := hPa
    have hD : va_D A [(ra 2, .inl (kI, 8, .inl q_told)), (ra 3, .inl (kI, 24, .inl q_kind)), (ra 4, .inl (kI, 24, .inl q_salt)), (ra 5, .inl (kI, 24, .inl q_pace)), (ra 6, .inl (kI, 24, .inl q_mute)), (ra 7, .inl (kI, 24, .inl q_late)), (ra 8, .inl (kI, 40, .inl q_from)), (ra 9, .inl (kI, 40, .inl q_to)), (ra 10, .inl (kI, 6, .inl q_goal)), (ra 11, .inl (kI, 1019, .inl q_now)), (ra 14, .inl (kI, 12, .inl q_reach)), (ra 15, .inl (kJ, 24, .inr (.inl q_met))), (ra 27, .inl (kI, 1019, .inl q_rowThen)), (m0, .inr (11, oX11 ra y72))] := hDa
    clear hPa hDa
    refine W.widen (k := 0) (n := 0) (Nat.le_of_ble_eq_true rfl) (Nat.le_of_ble_eq_true rfl) ?_
    obtain rfl : r70 = 0 := iv_one w71 (by decide)
    have hPD9 := cl_s (wc := [(m0, .inr (11, oX11 ra y72)), (ra 2, .inl (kI, 8, .inl q_told)), (ra 3, .inl (kI, 24, .inl q_kind)), (ra 4, .inl (kI, 24, .inl q_salt)), (ra 5, .inl (kI, 24, .inl q_pace)), (ra 6, .inl (kI, 24, .inl q_mute)), (ra 7, .inl (kI, 24, .inl q_late)), (ra 8, .inl (kI, 40, .inl q_from)), (ra 9, .inl (kI, 40, .inl q_to)), (ra 10, .inl (kI, 6, .inl q_goal)), (ra 11, .inl (kI, 1019, .inl q_now)), (ra 14, .inl (kI, 12, .inl q_reach)), (ra 15, .inl (kJ, 24, .inr (.inl q_met))), (ra 27, .inl (kI, 1019, .inl q_rowThen))]) hP hD [13, 0, 1, 2, 3, 4, 5, 6, 7, 8, 9, 10, 11, 12] rfl (by decide +kernel)
    have hP9 := hPD9.1
    have hD9 := hPD9.2
    exact W.iret (v := 0) hx hb hr (fun t ht hW => ⟨⟨0, (), rfl, trivial, y72, q_now, q_met, q_rowThen, hq73, (iv_eqL hq78 hfl14), hq_now, hq_rowThen, (show y72 1 = x0 1 from hq75), (show y72 10 = x0 10 from hq76), (show y72 11 = x0 11 from hq77), by rw [ht]; exact hP9, hD9⟩, hS.F ht⟩) hS.2.2 dX11_years_19
def rm_s11_image : Room := { frames := 1, cells := 0, slots := 0, locals := 22 }
set_option maxHeartbeats 4000000 in
set_option maxRecDepth 100000 in
theorem s11_image (l : Launch) (dC : Nat → ClassId) (dI : Nat → Nat → Nat) (kB kI kJ kZ kC kS : ClassId) (sz : Nat) (m0 : Nat) (ra : Nat → Nat) (x0 : Nat → Int32) (q_now : Nat → Int32) (q_status : Nat → Int32) (q_past : Nat → Int32) (q_notedPort : Nat → Int32) (q_notedGoal : Nat → Int32) (q_notedHop : Nat → Int32) (q_notedAddress : Nat → Int32) (q_imageRow : Nat → Int32) (q_pastThen : Nat → Int32) (q_notedPortThen : Nat → Int32) (q_notedGoalThen : Nat → Int32) (q_notedHopThen : Nat → Int32) (q_notedAddressThen : Nat → Int32) (q_statusThen : Nat → Int32) (hX : fI lX11 hX11 x0) (hq_now : fI lNow hNow q_now) (hq_past : fI lPast hPast q_past) (hq_notedPort : fI (fun _ => 0) (fun _ => 31) q_notedPort) (hq_notedGoal : fI (fun _ => 0) (fun _ => 2) q_notedGoal) (hq_imageRow : fI lNow hNow q_imageRow) (hq_pastThen : fI lPast hPast q_pastThen) (hq_notedPortThen : fI (fun _ => 0) (fun _ => 31) q_notedPortThen) (hq_notedGoalThen : fI (fun _ => 0) (fun _ => 2) q_notedGoalThen) : Met l yX11_image wsX11_image rm_s11_image (va_Pc [.ref m0] (fun U => U.heap.size = sz ∧ va_P (dC, dI) vwCl [(m0, .inr (11, oX11 ra x0)), (ra 11, .inl (kI, 1019, .inl q_now)), (ra 12, .inl (kI, 3, .inl q_status)), (ra 16, .inl (kI, 40760, .inl q_past)), (ra 22, .inl (kI, 8, .inl q_notedPort)), (ra 23, .inl (kI, 8, .inl q_notedGoal)), (ra 24, .inl (kI, 8, .inl q_notedHop)), (ra 25, .inl (kI, 8, .inl q_notedAddress)), (ra 28, .inl (kI, 1019, .inl q_imageRow)), (ra 29, .inl (kI, 40760, .inl q_pastThen)), (ra 30, .inl (kI, 8, .inl q_notedPortThen)), (ra 31, .inl (kI, 8, .inl q_notedGoalThen)), (ra 32, .inl (kI, 8, .inl q_notedHopThen)), (ra 33, .inl (kI, 8, .inl q_notedAddressThen)), (ra 34, .inl (kI, 3, .inl q_statusThen))] U.heap ∧ kE dC dI kB kI kJ kZ kC kS U ∧ va_D (fun _ => True) [(m0, .inr (11, oX11 ra x0)), (ra 11, .inl (kI, 1019, .inl q_now)), (ra 12, .inl (kI, 3, .inl q_status)), (ra 16, .inl (kI, 40760, .inl q_past)), (ra 22, .inl (kI, 8, .inl q_notedPort)), (ra 23, .inl (kI, 8, .inl q_notedGoal)), (ra 24, .inl (kI, 8, .inl q_notedHop)), (ra 25, .inl (kI, 8, .inl q_notedAddress)), (ra 28, .inl (kI, 1019, .inl q_imageRow)), (ra 29, .inl (kI, 40760, .inl q_pastThen)), (ra 30, .inl (kI, 8, .inl q_notedPortThen)), (ra 31, .inl (kI, 8, .inl q_notedGoalThen)), (ra 32, .inl (kI, 8, .inl q_notedHopThen)), (ra 33, .inl (kI, 8, .inl q_notedAddressThen)), (ra 34, .inl (kI, 3, .inl q_statusThen))])) (va_Qv (fun (_ : Unit) => True) (fun _ t => ∃ (x0' : Nat → Int32) (q_imageRow' : Nat → Int32) (q_pastThen' : Nat → Int32) (q_notedPortThen' : Nat → Int32) (q_notedGoalThen' : Nat → Int32) (q_notedHopThen' : Nat → Int32) (q_notedAddressThen' : Nat → Int32) (q_statusThen' : Nat → Int32), fI lX11 hX11 x0' ∧ fI lNow hNow q_imageRow' ∧ fI lPast hPast q_pastThen' ∧ fI (fun _ => 0) (fun _ => 31) q_notedPortThen' ∧ fI (fun _ => 0) (fun _ => 2) q_notedGoalThen' ∧ (x0' 1 = x0 1) ∧ (x0' 10 = x0 10) ∧ (x0' 11 = x0 11) ∧ (x0' 14 = x0 14) ∧ va_P (dC, dI) vwCl [(m0, .inr (11, oX11 ra x0')), (ra 11, .inl (kI, 1019, .inl q_now)), (ra 12, .inl (kI, 3, .inl q_status)), (ra 16, .inl (kI, 40760, .inl q_past)), (ra 22, .inl (kI, 8, .inl q_notedPort)), (ra 23, .inl (kI, 8, .inl q_notedGoal)), (ra 24, .inl (kI, 8, .inl q_notedHop)), (ra 25, .inl (kI, 8, .inl q_notedAddress)), (ra 28, .inl (kI, 1019, .inl q_imageRow')), (ra 29, .inl (kI, 40760, .inl q_pastThen')), (ra 30, .inl (kI, 8, .inl q_notedPortThen')), (ra 31, .inl (kI, 8, .inl q_notedGoalThen')), (ra 32, .inl (kI, 8, .inl q_notedHopThen')), (ra 33, .inl (kI, 8, .inl q_notedAddressThen')), (ra 34, .inl (kI, 3, .inl q_statusThen'))] t.heap ∧ va_D (va_A [(m0, .inr (11, oX11 ra x0)), (ra 11, .inl (kI, 1019, .inl q_now)), (ra 12, .inl (kI, 3, .inl q_status)), (ra 16, .inl (kI, 40760, .inl q_past)), (ra 22, .inl (kI, 8, .inl q_notedPort)), (ra 23, .inl (kI, 8, .inl q_notedGoal)), (ra 24, .inl (kI, 8, .inl q_notedHop)), (ra 25, .inl (kI, 8, .inl q_notedAddress)), (ra 28, .inl (kI, 1019, .inl q_imageRow)), (ra 29, .inl (kI, 40760, .inl q_pastThen)), (ra 30, .inl (kI, 8, .inl q_notedPortThen)), (ra 31, .inl (kI, 8, .inl q_notedGoalThen)), (ra 32, .inl (kI, 8, .inl q_notedHopThen)), (ra 33, .inl (kI, 8, .inl q_notedAddressThen)), (ra 34, .inl (kI, 3, .inl q_statusThen))] sz) [(m0, .inr (11, oX11 ra x0')), (ra 11, .inl (kI, 1019, .inl q_now)), (ra 12, .inl (kI, 3, .inl q_status)), (ra 16, .inl (kI, 40760, .inl q_past)), (ra 22, .inl (kI, 8, .inl q_notedPort)), (ra 23, .inl (kI, 8, .inl q_notedGoal)), (ra 24, .inl (kI, 8, .inl q_notedHop)), (ra 25, .inl (kI, 8, .inl q_notedAddress)), (ra 28, .inl (kI, 1019, .inl q_imageRow')), (ra 29, .inl (kI, 40760, .inl q_pastThen')), (ra 30, .inl (kI, 8, .inl q_notedPortThen')), (ra 31, .inl (kI, 8, .inl q_notedGoalThen')), (ra 32, .inl (kI, 8, .inl q_notedHopThen')), (ra 33, .inl (kI, 8, .inl q_notedAddressThen')), (ra 34, .inl (kI, 3, .inl q_statusThen'))]) (va_A [(m0, .inr (11, oX11 ra x0)), (ra 11, .inl (kI, 1019, .inl q_now)), (ra 12, .inl (kI, 3, .inl q_status)), (ra 16, .inl (kI, 40760, .inl q_past)), (ra 22, .inl (kI, 8, .inl q_notedPort)), (ra 23, .inl (kI, 8, .inl q_notedGoal)), (ra 24, .inl (kI, 8, .inl q_notedHop)), (ra 25, .inl (kI, 8, .inl q_notedAddress)), (ra 28, .inl (kI, 1019, .inl q_imageRow)), (ra 29, .inl (kI, 40760, .inl q_pastThen)), (ra 30, .inl (kI, 8, .inl q_notedPortThen)), (ra 31, .inl (kI, 8, .inl q_notedGoalThen)), (ra 32, .inl (kI, 8, .inl q_notedHopThen)), (ra 33, .inl (kI, 8, .inl q_notedAddressThen)), (ra 34, .inl (kI, 3, .inl q_statusThen))] sz)) 0 0 (va_A [(m0, .inr (11, oX11 ra x0)), (ra 11, .inl (kI, 1019, .inl q_now)), (ra 12, .inl (kI, 3, .inl q_status)), (ra 16, .inl (kI, 40760, .inl q_past)), (ra 22, .inl (kI, 8, .inl q_notedPort)), (ra 23, .inl (kI, 8, .inl q_notedGoal)), (ra 24, .inl (kI, 8, .inl q_notedHop)), (ra 25, .inl (kI, 8, .inl q_notedAddress)), (ra 28, .inl (kI, 1019, .inl q_imageRow)), (ra 29, .inl (kI, 40760, .inl q_pastThen)), (ra 30, .inl (kI, 8, .inl q_notedPortThen)), (ra 31, .inl (kI, 8, .inl q_notedGoalThen)), (ra 32, .inl (kI, 8, .inl q_notedHopThen)), (ra 33, .inl (kI, 8, .inl q_notedAddressThen)), (ra 34, .inl (kI, 3, .inl q_statusThen))] sz) := by
  refine Met.ofW (cc := cX11_image) (maxL := 1) (ret := none) (by decide) rfl ?_
  intro p e s m args0 below meth c s₁ B hml hv
  obtain ⟨hargs, hsz, hP, hE, hD0⟩ := hv
  have hx := B.exec
  have hb := B.bytes
  have hr := B.returns
  have hts := atoms_spec (ws := wsX11_image) B.pre
  have hown : s.vm.findClass RX11 = some m.cls := findClass_of_methodNamed B.named
  have hlocks := B.notSynchronized
  have hK := hE.1
  have hin11 : ∀ w ∈ wsX110, w ∈ wsX11_image := fun _ h9 => List.mem_cons_of_mem _ (List.mem_append_right _ h9)
  have hw_0 := hts (.fieldLink RX11 142 "PathProberModel" "code" "I") (List.mem_of_getElem? (i := 1) rfl)
  have hw_1 := hts (.fieldLink RX11 256 "PathProberModel" "hasImage" "Z") (List.mem_of_getElem? (i := 2) rfl)
  have hw_2 := hts (.fieldLink RX11 250 "PathProberModel" "acts" "I") (List.mem_of_getElem? (i := 3) rfl)
  have hw_3 := hts (.fieldLink RX11 477 "PathProberModel" "actsThen" "I") (List.mem_of_getElem? (i := 4) rfl)
  have hw_4 := hts (.fieldLink RX11 253 "PathProberModel" "noted" "I") (List.mem_of_getElem? (i := 5) rfl)
  have hw_5 := hts (.fieldLink RX11 480 "PathProberModel" "notedThen" "I") (List.mem_of_getElem? (i := 6) rfl)
  have hw_6 := hts (.fieldLink RX11 121 "PathProberModel" "imageRow" "[I") (List.mem_of_getElem? (i := 7) rfl)
  have hw_7 := hts (.fieldLink RX11 60 "PathProberModel" "now" "[I") (List.mem_of_getElem? (i := 8) rfl)
  have hw_8 := hts (.fieldLink RX11 124 "PathProberModel" "pastThen" "[I") (List.mem_of_getElem? (i := 9) rfl)
  have hw_9 := hts (.fieldLink RX11 84 "PathProberModel" "past" "[I") (List.mem_of_getElem? (i := 10) rfl)
  have hw_10 := hts (.fieldLink RX11 127 "PathProberModel" "notedPortThen" "[I") (List.mem_of_getElem? (i := 11) rfl)
  have hw_11 := hts (.fieldLink RX11 103 "PathProberModel" "notedPort" "[I") (List.mem_of_getElem? (i := 12) rfl)
  have hw_12 := hts (.fieldLink RX11 130 "PathProberModel" "notedGoalThen" "[I") (List.mem_of_getElem? (i := 13) rfl)
  have hw_13 := hts (.fieldLink RX11 106 "PathProberModel" "notedGoal" "[I") (List.mem_of_getElem? (i := 14) rfl)
  have hw_14 := hts (.fieldLink RX11 133 "PathProberModel" "notedHopThen" "[I") (List.mem_of_getElem? (i := 15) rfl)
  have hw_15 := hts (.fieldLink RX11 109 "PathProberModel" "notedHop" "[I") (List.mem_of_getElem? (i := 16) rfl)
  have hw_16 := hts (.fieldLink RX11 136 "PathProberModel" "notedAddressThen" "[I") (List.mem_of_getElem? (i := 17) rfl)
  have hw_17 := hts (.fieldLink RX11 112 "PathProberModel" "notedAddress" "[I") (List.mem_of_getElem? (i := 18) rfl)
  have hw_18 := hts (.fieldLink RX11 139 "PathProberModel" "statusThen" "[I") (List.mem_of_getElem? (i := 19) rfl)
  have hw_19 := hts (.fieldLink RX11 63 "PathProberModel" "status" "[I") (List.mem_of_getElem? (i := 20) rfl)
  subst hsz
  have hD := hD0.self (sz := s.heap.size)
  generalize hAe : va_A [(m0, .inr (11, oX11 ra x0)), (ra 11, .inl (kI, 1019, .inl q_now)), (ra 12, .inl (kI, 3, .inl q_status)), (ra 16, .inl (kI, 40760, .inl q_past)), (ra 22, .inl (kI, 8, .inl q_notedPort)), (ra 23, .inl (kI, 8, .inl q_notedGoal)), (ra 24, .inl (kI, 8, .inl q_notedHop)), (ra 25, .inl (kI, 8, .inl q_notedAddress)), (ra 28, .inl (kI, 1019, .inl q_imageRow)), (ra 29, .inl (kI, 40760, .inl q_pastThen)), (ra 30, .inl (kI, 8, .inl q_notedPortThen)), (ra 31, .inl (kI, 8, .inl q_notedGoalThen)), (ra 32, .inl (kI, 8, .inl q_notedHopThen)), (ra 33, .inl (kI, 8, .inl q_notedAddressThen)), (ra 34, .inl (kI, 3, .inl q_statusThen))] s.heap.size = A at hD ⊢
  have hA : ∀ q : Nat, s.heap.size ≤ q → A q := fun q h => by rw [← hAe]; exact Or.inr h
  have hS : va_S A s.heap s.heap [] := va_S.rf
  have hP : va_P (dC, dI) vwCl [(m0, .inr (11, oX11 ra x0)), (ra 11, .inl (kI, 1019, .inl q_now)), (ra 12, .inl (kI, 3, .inl q_status)), (ra 16, .inl (kI, 40760, .inl q_past)), (ra 22, .inl (kI, 8, .inl q_notedPort)), (ra 23, .inl (kI, 8, .inl q_notedGoal)), (ra 24, .inl (kI, 8, .inl q_notedHop)), (ra 25, .inl (kI, 8, .inl q_notedAddress)), (ra 28, .inl (kI, 1019, .inl q_imageRow)), (ra 29, .inl (kI, 40760, .inl q_pastThen)), (ra 30, .inl (kI, 8, .inl q_notedPortThen)), (ra 31, .inl (kI, 8, .inl q_notedGoalThen)), (ra 32, .inl (kI, 8, .inl q_notedHopThen)), (ra 33, .inl (kI, 8, .inl q_notedAddressThen)), (ra 34, .inl (kI, 3, .inl q_statusThen))] s.heap := hP
  have hl := lv_entry ([.ref m0]) (n := 1) (Nat.le_of_ble_eq_true rfl)
  have hla : entryFrame m args0 1 = entryFrame m ([.ref m0] : List Value).toArray 1 := by rw [hargs]
  rw [hla, lg_entry_eq]
  generalize (lg_sl ([.ref m0]) ++ List.replicate (1 - (lg_sl ([.ref m0])).length) Slot.unset).toArray = ls at hl ⊢
  have hl : lv_has ls 1 [(0, .ref m0)] := hl
  refine lv_aload_n hx hb dX11_image_0 rfl (lv_at hl 0 rfl) ?_
  refine lv_iconst (v := 0) hx hb dX11_image_1 ic_0 ?_
  refine va_put (D := (dC, dI)) (ci := 11) (v := .int 0) (ty := .int) (C := RX11) (T := TX11) (N := 61) hx hb hts hin11 tyX11 tyX11_ok nmX11 hown hK hP hD hS 0 rfl rfl 2 (by decide) hw_0 (fun _ h9 => h9) rfl (by decide +kernel) rfl rfl (Nat.le_of_ble_eq_true rfl) dX11_image_2 (fun H locs hPa hDa hS => ?_)
  clear hP hD
  have hP : va_P (dC, dI) vwCl [(m0, .inr (11, oX11 ra (upd x0 0 0))), (ra 11, .inl (kI, 1019, .inl q_now)), (ra 12, .inl (kI, 3, .inl q_status)), (ra 16, .inl (kI, 40760, .inl q_past)), (ra 22, .inl (kI, 8, .inl q_notedPort)), (ra 23, .inl (kI, 8, .inl q_notedGoal)), (ra 24, .inl (kI, 8, .inl q_notedHop)), (ra 25, .inl (kI, 8, .inl q_notedAddress)), (ra 28, .inl (kI, 1019, .inl q_imageRow)), (ra 29, .inl (kI, 40760, .inl q_pastThen)), (ra 30, .inl (kI, 8, .inl q_notedPortThen)), (ra 31, .inl (kI, 8, .inl q_notedGoalThen)), (ra 32, .inl (kI, 8, .inl q_notedHopThen)), (ra 33, .inl (kI, 8, .inl q_notedAddressThen)), (ra 34, .inl (kI, 3, .inl q_statusThen))] H := hPa
  have hD : va_D A [(m0, .inr (11, oX11 ra (upd x0 0 0))), (ra 11, .inl (kI, 1019, .inl q_now)), (ra 12, .inl (kI, 3, .inl q_status)), (ra 16, .inl (kI, 40760, .inl q_past)), (ra 22, .inl (kI, 8, .inl q_notedPort)), (ra 23, .inl (kI, 8, .inl q_notedGoal)), (ra 24, .inl (kI, 8, .inl q_notedHop)), (ra 25, .inl (kI, 8, .inl q_notedAddress)), (ra 28, .inl (kI, 1019, .inl q_imageRow)), (ra 29, .inl (kI, 40760, .inl q_pastThen)), (ra 30, .inl (kI, 8, .inl q_notedPortThen)), (ra 31, .inl (kI, 8, .inl q_notedGoalThen)), (ra 32, .inl (kI, 8, .inl q_notedHopThen)), (ra 33, .inl (kI, 8, .inl q_notedAddressThen)), (ra 34, .inl (kI, 3, .inl q_statusThen))] := hDa
  clear hPa hDa
  refine lv_aload_n hx hb dX11_image_5 rfl (lv_at hl 0 rfl) ?_
  refine lv_iconst (v := 1) hx hb dX11_image_6 ic_1 ?_
  refine va_put (D := (dC, dI)) (ci := 11) (v := .int 1) (ty := .boolean) (C := RX11) (T := TX11) (N := 61) hx hb hts hin11 tyX11 tyX11_ok nmX11 hown hK hP hD hS 0 rfl rfl 51 (by decide) hw_1 (fun _ h9 => h9) rfl (by decide +kernel) rfl rfl (Nat.le_of_ble_eq_true rfl) dX11_image_7 (fun H locs hPa hDa hS => ?_)
  clear hP hD
  have hP : va_P (dC, dI) vwCl [(m0, .inr (11, oX11 ra (upd (upd x0 0 0) 23 1))), (ra 11, .inl (kI, 1019, .inl q_now)), (ra 12, .inl (kI, 3, .inl q_status)), (ra 16, .inl (kI, 40760, .inl q_past)), (ra 22, .inl (kI, 8, .inl q_notedPort)), (ra 23, .inl (kI, 8, .inl q_notedGoal)), (ra 24, .inl (kI, 8, .inl q_notedHop)), (ra 25, .inl (kI, 8, .inl q_notedAddress)), (ra 28, .inl (kI, 1019, .inl q_imageRow)), (ra 29, .inl (kI, 40760, .inl q_pastThen)), (ra 30, .inl (kI, 8, .inl q_notedPortThen)), (ra 31, .inl (kI, 8, .inl q_notedGoalThen)), (ra 32, .inl (kI, 8, .inl q_notedHopThen)), (ra 33, .inl (kI, 8, .inl q_notedAddressThen)), (ra 34, .inl (kI, 3, .inl q_statusThen))] H := hPa
  have hD : va_D A [(m0, .inr (11, oX11 ra (upd (upd x0 0 0) 23 1))), (ra 11, .inl (kI, 1019, .inl q_now)), (ra 12, .inl (kI, 3, .inl q_status)), (ra 16, .inl (kI, 40760, .inl q_past)), (ra 22, .inl (kI, 8, .inl q_notedPort)), (ra 23, .inl (kI, 8, .inl q_notedGoal)), (ra 24, .inl (kI, 8, .inl q_notedHop)), (ra 25, .inl (kI, 8, .inl q_notedAddress)), (ra 28, .inl (kI, 1019, .inl q_imageRow)), (ra 29, .inl (kI, 40760, .inl q_pastThen)), (ra 30, .inl (kI, 8, .inl q_notedPortThen)), (ra 31, .inl (kI, 8, .inl q_notedGoalThen)), (ra 32, .inl (kI, 8, .inl q_notedHopThen)), (ra 33, .inl (kI, 8, .inl q_notedAddressThen)), (ra 34, .inl (kI, 3, .inl q_statusThen))] := hDa
  clear hPa hDa
  refine lv_aload_n hx hb dX11_image_10 rfl (lv_at hl 0 rfl) ?_
  refine lv_aload_n hx hb dX11_image_11 rfl (lv_at hl 0 rfl) ?_
  refine va_get (D := (dC, dI)) (ci := 11) (v := .int (x0 17)) (C := RX11) (T := TX11) (N := 61) hx hb hts hin11 hown hK hP 0 rfl rfl 33 (Nat.le_of_ble_eq_true rfl) hw_2 (fun _ h9 => h9) rfl dX11_image_12 ?_
  refine va_put (D := (dC, dI)) (ci := 11) (v := .int (x0 17)) (ty := .int) (C := RX11) (T := TX11) (N := 61) hx hb hts hin11 tyX11 tyX11_ok nmX11 hown hK hP hD hS 0 rfl rfl 52 (by decide) hw_3 (fun _ h9 => h9) rfl (by decide +kernel) rfl rfl (Nat.le_of_ble_eq_true rfl) dX11_image_15 (fun H locs hPa hDa hS => ?_)
  clear hP hD
  have hP : va_P (dC, dI) vwCl [(m0, .inr (11, oX11 ra (upd (upd (upd x0 0 0) 23 1) 24 (x0 17)))), (ra 11, .inl (kI, 1019, .inl q_now)), (ra 12, .inl (kI, 3, .inl q_status)), (ra 16, .inl (kI, 40760, .inl q_past)), (ra 22, .inl (kI, 8, .inl q_notedPort)), (ra 23, .inl (kI, 8, .inl q_notedGoal)), (ra 24, .inl (kI, 8, .inl q_notedHop)), (ra 25, .inl (kI, 8, .inl q_notedAddress)), (ra 28, .inl (kI, 1019, .inl q_imageRow)), (ra 29, .inl (kI, 40760, .inl q_pastThen)), (ra 30, .inl (kI, 8, .inl q_notedPortThen)), (ra 31, .inl (kI, 8, .inl q_notedGoalThen)), (ra 32, .inl (kI, 8, .inl q_notedHopThen)), (ra 33, .inl (kI, 8, .inl q_notedAddressThen)), (ra 34, .inl (kI, 3, .inl q_statusThen))] H := hPa
  have hD : va_D A [(m0, .inr (11, oX11 ra (upd (upd (upd x0 0 0) 23 1) 24 (x0 17)))), (ra 11, .inl (kI, 1019, .inl q_now)), (ra 12, .inl (kI, 3, .inl q_status)), (ra 16, .inl (kI, 40760, .inl q_past)), (ra 22, .inl (kI, 8, .inl q_notedPort)), (ra 23, .inl (kI, 8, .inl q_notedGoal)), (ra 24, .inl (kI, 8, .inl q_notedHop)), (ra 25, .inl (kI, 8, .inl q_notedAddress)), (ra 28, .inl (kI, 1019, .inl q_imageRow)), (ra 29, .inl (kI, 40760, .inl q_pastThen)), (ra 30, .inl (kI, 8, .inl q_notedPortThen)), (ra 31, .inl (kI, 8, .inl q_notedGoalThen)), (ra 32, .inl (kI, 8, .inl q_notedHopThen)), (ra 33, .inl (kI, 8, .inl q_notedAddressThen)), (ra 34, .inl (kI, 3, .inl q_statusThen))] := hDa
  clear hPa hDa
  refine lv_aload_n hx hb dX11_image_18 rfl (lv_at hl 0 rfl) ?_
  refine lv_aload_n hx hb dX11_image_19 rfl (lv_at hl 0 rfl) ?_
  refine va_get (D := (dC, dI)) (ci := 11) (v := .int (x0 21)) (C := RX11) (T := TX11) (N := 61) hx hb hts hin11 hown hK hP 0 rfl rfl 43 (Nat.le_of_ble_eq_true rfl) hw_4 (fun _ h9 => h9) rfl dX11_image_20 ?_
  refine va_put (D := (dC, dI)) (ci := 11) (v := .int (x0 21)) (ty := .int) (C := RX11) (T := TX11) (N := 61) hx hb hts hin11 tyX11 tyX11_ok nmX11 hown hK hP hD hS 0 rfl rfl 53 (by decide) hw_5 (fun _ h9 => h9) rfl (by decide +kernel) rfl rfl (Nat.le_of_ble_eq_true rfl) dX11_image_23 (fun H locs hPa hDa hS => ?_)
  clear hP hD
  have hP : va_P (dC, dI) vwCl [(m0, .inr (11, oX11 ra (upd (upd (upd (upd x0 0 0) 23 1) 24 (x0 17)) 25 (x0 21)))), (ra 11, .inl (kI, 1019, .inl q_now)), (ra 12, .inl (kI, 3, .inl q_status)), (ra 16, .inl (kI, 40760, .inl q_past)), (ra 22, .inl (kI, 8, .inl q_notedPort)), (ra 23, .inl (kI, 8, .inl q_notedGoal)), (ra 24, .inl (kI, 8, .inl q_notedHop)), (ra 25, .inl (kI, 8, .inl q_notedAddress)), (ra 28, .inl (kI, 1019, .inl q_imageRow)), (ra 29, .inl (kI, 40760, .inl q_pastThen)), (ra 30, .inl (kI, 8, .inl q_notedPortThen)), (ra 31, .inl (kI, 8, .inl q_notedGoalThen)), (ra 32, .inl (kI, 8, .inl q_notedHopThen)), (ra 33, .inl (kI, 8, .inl q_notedAddressThen)), (ra 34, .inl (kI, 3, .inl q_statusThen))] H := hPa
  have hD : va_D A [(m0, .inr (11, oX11 ra (upd (upd (upd (upd x0 0 0) 23 1) 24 (x0 17)) 25 (x0 21)))), (ra 11, .inl (kI, 1019, .inl q_now)), (ra 12, .inl (kI, 3, .inl q_status)), (ra 16, .inl (kI, 40760, .inl q_past)), (ra 22, .inl (kI, 8, .inl q_notedPort)), (ra 23, .inl (kI, 8, .inl q_notedGoal)), (ra 24, .inl (kI, 8, .inl q_notedHop)), (ra 25, .inl (kI, 8, .inl q_notedAddress)), (ra 28, .inl (kI, 1019, .inl q_imageRow)), (ra 29, .inl (kI, 40760, .inl q_pastThen)), (ra 30, .inl (kI, 8, .inl q_notedPortThen)), (ra 31, .inl (kI, 8, .inl q_notedGoalThen)), (ra 32, .inl (kI, 8, .inl q_notedHopThen)), (ra 33, .inl (kI, 8, .inl q_notedAddressThen)), (ra 34, .inl (kI, 3, .inl q_statusThen))] := hDa
  clear hPa hDa
  refine lv_aload_n hx hb dX11_image_26 rfl (lv_at hl 0 rfl) ?_
  refine va_get (D := (dC, dI)) (ci := 11) (v := .ref (ra 28)) (C := RX11) (T := TX11) (N := 61) hx hb hts hin11 hown hK hP 0 rfl rfl 54 (Nat.le_of_ble_eq_true rfl) hw_6 (fun _ h9 => h9) rfl dX11_image_27 ?_
  refine lv_aload_n hx hb dX11_image_30 rfl (lv_at hl 0 rfl) ?_
  refine va_get (D := (dC, dI)) (ci := 11) (v := .ref (ra 11)) (C := RX11) (T := TX11) (N := 61) hx hb hts hin11 hown hK hP 0 rfl rfl 12 (Nat.le_of_ble_eq_true rfl) hw_7 (fun _ h9 => h9) rfl dX11_image_31 ?_
  obtain ⟨hPc, hDc, hFc, hJn⟩ := cl_a (wc := [(ra 28, .inl (kI, 1019, .inl q_imageRow)), (ra 11, .inl (kI, 1019, .inl q_now))]) (wr := [(m0, .inr (11, oX11 ra (upd (upd (upd (upd x0 0 0) 23 1) 24 (x0 17)) 25 (x0 21)))), (ra 12, .inl (kI, 3, .inl q_status)), (ra 16, .inl (kI, 40760, .inl q_past)), (ra 22, .inl (kI, 8, .inl q_notedPort)), (ra 23, .inl (kI, 8, .inl q_notedGoal)), (ra 24, .inl (kI, 8, .inl q_notedHop)), (ra 25, .inl (kI, 8, .inl q_notedAddress)), (ra 29, .inl (kI, 40760, .inl q_pastThen)), (ra 30, .inl (kI, 8, .inl q_notedPortThen)), (ra 31, .inl (kI, 8, .inl q_notedGoalThen)), (ra 32, .inl (kI, 8, .inl q_notedHopThen)), (ra 33, .inl (kI, 8, .inl q_notedAddressThen)), (ra 34, .inl (kI, 3, .inl q_statusThen))]) hP hD hS hA [8, 1] [0, 2, 3, 4, 5, 6, 7, 9, 10, 11, 12, 13, 14] rfl rfl (by decide +kernel)
  refine va_callv (va_runS (As := [.ref (ra 28), .ref (ra 11)]) (rest := []) ⟨hx, hb, hml, hown, hts⟩ (s11_copyTo_now l dC dI kB kI kJ kZ kC kS H.size (ra 28) (ra 11) q_imageRow q_now (hq_imageRow) (hq_now)) (va_cwS 2 hts gX11_image_X11_copyTo rfl rfl rfl (by decide +kernel) ⟨Nat.le_of_ble_eq_true rfl, Nat.le_of_ble_eq_true rfl⟩) ⟨fun a U g mk q => by obtain ⟨q0, q1, qP, qE, qD⟩ := q; exact ⟨q0, q1, qP, kE_call qE, qD⟩, fun U hU hW => ⟨rfl, by rw [hU], by rw [hU]; exact hPc, kE_warm hW hE, hDc.weaken (fun _ _ _ _ => trivial)⟩⟩ rfl rfl hl.1 rfl (lv_room (Nat.le_of_ble_eq_true rfl)) dX11_image_34 ⟨Nat.le_of_ble_eq_true rfl, Nat.le_of_ble_eq_true rfl⟩) hS (fun q _ h => hFc q h) hFc (fun u t H locs ht hvm w2 hB hz1 hk1 hS => ?_)
  obtain ⟨f3, hq4, hP1, hD1⟩ := hB
  try dsimp only at w2
  obtain ⟨hPa, hDa⟩ := hJn (w1 := [(ra 28, .inl (kI, 1019, .inl f3)), (ra 11, .inl (kI, 1019, .inl q_now))]) hk1 ht hP1 hD1
  clear hP hD hPc hDc hFc hJn hP1 hD1 hk1
  have hP : va_P (dC, dI) vwCl [(m0, .inr (11, oX11 ra (upd (upd (upd (upd x0 0 0) 23 1) 24 (x0 17)) 25 (x0 21)))), (ra 12, .inl (kI, 3, .inl q_status)), (ra 16, .inl (kI, 40760, .inl q_past)), (ra 22, .inl (kI, 8, .inl q_notedPort)), (ra 23, .inl (kI, 8, .inl q_notedGoal)), (ra 24, .inl (kI, 8, .inl q_notedHop)), (ra 25, .inl (kI, 8, .inl q_notedAddress)), (ra 29, .inl (kI, 40760, .inl q_pastThen)), (ra 30, .inl (kI, 8, .inl q_notedPortThen)), (ra 31, .inl (kI, 8, .inl q_notedGoalThen)), (ra 32, .inl (kI, 8, .inl q_notedHopThen)), (ra 33, .inl (kI, 8, .inl q_notedAddressThen)), (ra 34, .inl (kI, 3, .inl q_statusThen)), (ra 28, .inl (kI, 1019, .inl f3)), (ra 11, .inl (kI, 1019, .inl q_now))] H := hPa
  have hD : va_D A [(m0, .inr (11, oX11 ra (upd (upd (upd (upd x0 0 0) 23 1) 24 (x0 17)) 25 (x0 21)))), (ra 12, .inl (kI, 3, .inl q_status)), (ra 16, .inl (kI, 40760, .inl q_past)), (ra 22, .inl (kI, 8, .inl q_notedPort)), (ra 23, .inl (kI, 8, .inl q_notedGoal)), (ra 24, .inl (kI, 8, .inl q_notedHop)), (ra 25, .inl (kI, 8, .inl q_notedAddress)), (ra 29, .inl (kI, 40760, .inl q_pastThen)), (ra 30, .inl (kI, 8, .inl q_notedPortThen)), (ra 31, .inl (kI, 8, .inl q_notedGoalThen)), (ra 32, .inl (kI, 8, .inl q_notedHopThen)), (ra 33, .inl (kI, 8, .inl q_notedAddressThen)), (ra 34, .inl (kI, 3, .inl q_statusThen)), (ra 28, .inl (kI, 1019, .inl f3)), (ra 11, .inl (kI, 1019, .inl q_now))] := hDa
  clear hPa hDa
  refine W.widen (k := 0) (n := 0) (Nat.le_of_ble_eq_true rfl) (Nat.le_of_ble_eq_true rfl) ?_
  refine lv_aload_n hx hb dX11_image_37 rfl (lv_at hl 0 rfl) ?_
  refine va_get (D := (dC, dI)) (ci := 11) (v := .ref (ra 29)) (C := RX11) (T := TX11) (N := 61) hx hb hts hin11 hown hK hP 0 rfl rfl 55 (Nat.le_of_ble_eq_true rfl) hw_8 (fun _ h9 => h9) rfl dX11_image_38 ?_
  refine lv_aload_n hx hb dX11_image_41 rfl (lv_at hl 0 rfl) ?_
  refine va_get (D := (dC, dI)) (ci := 11) (v := .ref (ra 16)) (C := RX11) (T := TX11) (N := 61) hx hb hts hin11 hown hK hP 0 rfl rfl 34 (Nat.le_of_ble_eq_true rfl) hw_9 (fun _ h9 => h9) rfl dX11_image_42 ?_
  obtain ⟨hPc, hDc, hFc, hJn⟩ := cl_a (wc := [(ra 29, .inl (kI, 40760, .inl q_pastThen)), (ra 16, .inl (kI, 40760, .inl q_past))]) (wr := [(m0, .inr (11, oX11 ra (upd (upd (upd (upd x0 0 0) 23 1) 24 (x0 17)) 25 (x0 21)))), (ra 12, .inl (kI, 3, .inl q_status)), (ra 22, .inl (kI, 8, .inl q_notedPort)), (ra 23, .inl (kI, 8, .inl q_notedGoal)), (ra 24, .inl (kI, 8, .inl q_notedHop)), (ra 25, .inl (kI, 8, .inl q_notedAddress)), (ra 30, .inl (kI, 8, .inl q_notedPortThen)), (ra 31, .inl (kI, 8, .inl q_notedGoalThen)), (ra 32, .inl (kI, 8, .inl q_notedHopThen)), (ra 33, .inl (kI, 8, .inl q_notedAddressThen)), (ra 34, .inl (kI, 3, .inl q_statusThen)), (ra 28, .inl (kI, 1019, .inl f3)), (ra 11, .inl (kI, 1019, .inl q_now))]) hP hD hS hA [7, 2] [0, 1, 3, 4, 5, 6, 8, 9, 10, 11, 12, 13, 14] rfl rfl (by decide +kernel)
  refine va_callv (va_runS (As := [.ref (ra 29), .ref (ra 16)]) (rest := []) ⟨hx, hb, hml, hown, hts⟩ (s11_copyTo_past l dC dI kB kI kJ kZ kC kS H.size (ra 29) (ra 16) q_pastThen q_past (hq_pastThen) (hq_past)) (va_cwS 2 hts gX11_image_X11_copyTo rfl rfl rfl (by decide +kernel) ⟨Nat.le_of_ble_eq_true rfl, Nat.le_of_ble_eq_true rfl⟩) ⟨fun a U g mk q => by obtain ⟨q0, q1, qP, qE, qD⟩ := q; exact ⟨q0, q1, qP, kE_call qE, qD⟩, fun U hU hW => ⟨rfl, by rw [hU], by rw [hU]; exact hPc, kE_warm hW hE, hDc.weaken (fun _ _ _ _ => trivial)⟩⟩ rfl rfl hl.1 rfl (lv_room (Nat.le_of_ble_eq_true rfl)) dX11_image_45 ⟨Nat.le_of_ble_eq_true rfl, Nat.le_of_ble_eq_true rfl⟩) hS (fun q _ h => hFc q h) hFc (fun u t H locs ht hvm w6 hB hz1 hk1 hS => ?_)
  obtain ⟨f7, hq8, hP1, hD1⟩ := hB
  try dsimp only at w6
  obtain ⟨hPa, hDa⟩ := hJn (w1 := [(ra 29, .inl (kI, 40760, .inl f7)), (ra 16, .inl (kI, 40760, .inl q_past))]) hk1 ht hP1 hD1
  clear hP hD hPc hDc hFc hJn hP1 hD1 hk1
  have hP : va_P (dC, dI) vwCl [(m0, .inr (11, oX11 ra (upd (upd (upd (upd x0 0 0) 23 1) 24 (x0 17)) 25 (x0 21)))), (ra 12, .inl (kI, 3, .inl q_status)), (ra 22, .inl (kI, 8, .inl q_notedPort)), (ra 23, .inl (kI, 8, .inl q_notedGoal)), (ra 24, .inl (kI, 8, .inl q_notedHop)), (ra 25, .inl (kI, 8, .inl q_notedAddress)), (ra 30, .inl (kI, 8, .inl q_notedPortThen)), (ra 31, .inl (kI, 8, .inl q_notedGoalThen)), (ra 32, .inl (kI, 8, .inl q_notedHopThen)), (ra 33, .inl (kI, 8, .inl q_notedAddressThen)), (ra 34, .inl (kI, 3, .inl q_statusThen)), (ra 28, .inl (kI, 1019, .inl f3)), (ra 11, .inl (kI, 1019, .inl q_now)), (ra 29, .inl (kI, 40760, .inl f7)), (ra 16, .inl (kI, 40760, .inl q_past))] H := hPa
  have hD : va_D A [(m0, .inr (11, oX11 ra (upd (upd (upd (upd x0 0 0) 23 1) 24 (x0 17)) 25 (x0 21)))), (ra 12, .inl (kI, 3, .inl q_status)), (ra 22, .inl (kI, 8, .inl q_notedPort)), (ra 23, .inl (kI, 8, .inl q_notedGoal)), (ra 24, .inl (kI, 8, .inl q_notedHop)), (ra 25, .inl (kI, 8, .inl q_notedAddress)), (ra 30, .inl (kI, 8, .inl q_notedPortThen)), (ra 31, .inl (kI, 8, .inl q_notedGoalThen)), (ra 32, .inl (kI, 8, .inl q_notedHopThen)), (ra 33, .inl (kI, 8, .inl q_notedAddressThen)), (ra 34, .inl (kI, 3, .inl q_statusThen)), (ra 28, .inl (kI, 1019, .inl f3)), (ra 11, .inl (kI, 1019, .inl q_now)), (ra 29, .inl (kI, 40760, .inl f7)), (ra 16, .inl (kI, 40760, .inl q_past))] := hDa
  clear hPa hDa
  refine W.widen (k := 0) (n := 0) (Nat.le_of_ble_eq_true rfl) (Nat.le_of_ble_eq_true rfl) ?_
  refine lv_aload_n hx hb dX11_image_48 rfl (lv_at hl 0 rfl) ?_
  refine va_get (D := (dC, dI)) (ci := 11) (v := .ref (ra 30)) (C := RX11) (T := TX11) (N := 61) hx hb hts hin11 hown hK hP 0 rfl rfl 56 (Nat.le_of_ble_eq_true rfl) hw_10 (fun _ h9 => h9) rfl dX11_image_49 ?_
  refine lv_aload_n hx hb dX11_image_52 rfl (lv_at hl 0 rfl) ?_
  refine va_get (D := (dC, dI)) (ci := 11) (v := .ref (ra 22)) (C := RX11) (T := TX11) (N := 61) hx hb hts hin11 hown hK hP 0 rfl rfl 44 (Nat.le_of_ble_eq_true rfl) hw_11 (fun _ h9 => h9) rfl dX11_image_53 ?_
  obtain ⟨hPc, hDc, hFc, hJn⟩ := cl_a (wc := [(ra 30, .inl (kI, 8, .inl q_notedPortThen)), (ra 22, .inl (kI, 8, .inl q_notedPort))]) (wr := [(m0, .inr (11, oX11 ra (upd (upd (upd (upd x0 0 0) 23 1) 24 (x0 17)) 25 (x0 21)))), (ra 12, .inl (kI, 3, .inl q_status)), (ra 23, .inl (kI, 8, .inl q_notedGoal)), (ra 24, .inl (kI, 8, .inl q_notedHop)), (ra 25, .inl (kI, 8, .inl q_notedAddress)), (ra 31, .inl (kI, 8, .inl q_notedGoalThen)), (ra 32, .inl (kI, 8, .inl q_notedHopThen)), (ra 33, .inl (kI, 8, .inl q_notedAddressThen)), (ra 34, .inl (kI, 3, .inl q_statusThen)), (ra 28, .inl (kI, 1019, .inl f3)), (ra 11, .inl (kI, 1019, .inl q_now)), (ra 29, .inl (kI, 40760, .inl f7)), (ra 16, .inl (kI, 40760, .inl q_past))]) hP hD hS hA [6, 2] [0, 1, 3, 4, 5, 7, 8, 9, 10, 11, 12, 13, 14] rfl rfl (by decide +kernel)
  refine va_callv (va_runS (As := [.ref (ra 30), .ref (ra 22)]) (rest := []) ⟨hx, hb, hml, hown, hts⟩ (s11_copyTo_port l dC dI kB kI kJ kZ kC kS H.size (ra 30) (ra 22) q_notedPortThen q_notedPort (hq_notedPortThen) (hq_notedPort)) (va_cwS 2 hts gX11_image_X11_copyTo rfl rfl rfl (by decide +kernel) ⟨Nat.le_of_ble_eq_true rfl, Nat.le_of_ble_eq_true rfl⟩) ⟨fun a U g mk q => by obtain ⟨q0, q1, qP, qE, qD⟩ := q; exact ⟨q0, q1, qP, kE_call qE, qD⟩, fun U hU hW => ⟨rfl, by rw [hU], by rw [hU]; exact hPc, kE_warm hW hE, hDc.weaken (fun _ _ _ _ => trivial)⟩⟩ rfl rfl hl.1 rfl (lv_room (Nat.le_of_ble_eq_true rfl)) dX11_image_56 ⟨Nat.le_of_ble_eq_true rfl, Nat.le_of_ble_eq_true rfl⟩) hS (fun q _ h => hFc q h) hFc (fun u t H locs ht hvm w10 hB hz1 hk1 hS => ?_)
  obtain ⟨f11, hq12, hP1, hD1⟩ := hB
  try dsimp only at w10
  obtain ⟨hPa, hDa⟩ := hJn (w1 := [(ra 30, .inl (kI, 8, .inl f11)), (ra 22, .inl (kI, 8, .inl q_notedPort))]) hk1 ht hP1 hD1
  clear hP hD hPc hDc hFc hJn hP1 hD1 hk1
  have hP : va_P (dC, dI) vwCl [(m0, .inr (11, oX11 ra (upd (upd (upd (upd x0 0 0) 23 1) 24 (x0 17)) 25 (x0 21)))), (ra 12, .inl (kI, 3, .inl q_status)), (ra 23, .inl (kI, 8, .inl q_notedGoal)), (ra 24, .inl (kI, 8, .inl q_notedHop)), (ra 25, .inl (kI, 8, .inl q_notedAddress)), (ra 31, .inl (kI, 8, .inl q_notedGoalThen)), (ra 32, .inl (kI, 8, .inl q_notedHopThen)), (ra 33, .inl (kI, 8, .inl q_notedAddressThen)), (ra 34, .inl (kI, 3, .inl q_statusThen)), (ra 28, .inl (kI, 1019, .inl f3)), (ra 11, .inl (kI, 1019, .inl q_now)), (ra 29, .inl (kI, 40760, .inl f7)), (ra 16, .inl (kI, 40760, .inl q_past)), (ra 30, .inl (kI, 8, .inl f11)), (ra 22, .inl (kI, 8, .inl q_notedPort))] H := hPa
  have hD : va_D A [(m0, .inr (11, oX11 ra (upd (upd (upd (upd x0 0 0) 23 1) 24 (x0 17)) 25 (x0 21)))), (ra 12, .inl (kI, 3, .inl q_status)), (ra 23, .inl (kI, 8, .inl q_notedGoal)), (ra 24, .inl (kI, 8, .inl q_notedHop)), (ra 25, .inl (kI, 8, .inl q_notedAddress)), (ra 31, .inl (kI, 8, .inl q_notedGoalThen)), (ra 32, .inl (kI, 8, .inl q_notedHopThen)), (ra 33, .inl (kI, 8, .inl q_notedAddressThen)), (ra 34, .inl (kI, 3, .inl q_statusThen)), (ra 28, .inl (kI, 1019, .inl f3)), (ra 11, .inl (kI, 1019, .inl q_now)), (ra 29, .inl (kI, 40760, .inl f7)), (ra 16, .inl (kI, 40760, .inl q_past)), (ra 30, .inl (kI, 8, .inl f11)), (ra 22, .inl (kI, 8, .inl q_notedPort))] := hDa
  clear hPa hDa
  refine W.widen (k := 0) (n := 0) (Nat.le_of_ble_eq_true rfl) (Nat.le_of_ble_eq_true rfl) ?_
  refine lv_aload_n hx hb dX11_image_59 rfl (lv_at hl 0 rfl) ?_
  refine va_get (D := (dC, dI)) (ci := 11) (v := .ref (ra 31)) (C := RX11) (T := TX11) (N := 61) hx hb hts hin11 hown hK hP 0 rfl rfl 57 (Nat.le_of_ble_eq_true rfl) hw_12 (fun _ h9 => h9) rfl dX11_image_60 ?_
  refine lv_aload_n hx hb dX11_image_63 rfl (lv_at hl 0 rfl) ?_
  refine va_get (D := (dC, dI)) (ci := 11) (v := .ref (ra 23)) (C := RX11) (T := TX11) (N := 61) hx hb hts hin11 hown hK hP 0 rfl rfl 45 (Nat.le_of_ble_eq_true rfl) hw_13 (fun _ h9 => h9) rfl dX11_image_64 ?_
  obtain ⟨hPc, hDc, hFc, hJn⟩ := cl_a (wc := [(ra 31, .inl (kI, 8, .inl q_notedGoalThen)), (ra 23, .inl (kI, 8, .inl q_notedGoal))]) (wr := [(m0, .inr (11, oX11 ra (upd (upd (upd (upd x0 0 0) 23 1) 24 (x0 17)) 25 (x0 21)))), (ra 12, .inl (kI, 3, .inl q_status)), (ra 24, .inl (kI, 8, .inl q_notedHop)), (ra 25, .inl (kI, 8, .inl q_notedAddress)), (ra 32, .inl (kI, 8, .inl q_notedHopThen)), (ra 33, .inl (kI, 8, .inl q_notedAddressThen)), (ra 34, .inl (kI, 3, .inl q_statusThen)), (ra 28, .inl (kI, 1019, .inl f3)), (ra 11, .inl (kI, 1019, .inl q_now)), (ra 29, .inl (kI, 40760, .inl f7)), (ra 16, .inl (kI, 40760, .inl q_past)), (ra 30, .inl (kI, 8, .inl f11)), (ra 22, .inl (kI, 8, .inl q_notedPort))]) hP hD hS hA [5, 2] [0, 1, 3, 4, 6, 7, 8, 9, 10, 11, 12, 13, 14] rfl rfl (by decide +kernel)
  refine va_callv (va_runS (As := [.ref (ra 31), .ref (ra 23)]) (rest := []) ⟨hx, hb, hml, hown, hts⟩ (s11_copyTo_goal l dC dI kB kI kJ kZ kC kS H.size (ra 31) (ra 23) q_notedGoalThen q_notedGoal (hq_notedGoalThen) (hq_notedGoal)) (va_cwS 2 hts gX11_image_X11_copyTo rfl rfl rfl (by decide +kernel) ⟨Nat.le_of_ble_eq_true rfl, Nat.le_of_ble_eq_true rfl⟩) ⟨fun a U g mk q => by obtain ⟨q0, q1, qP, qE, qD⟩ := q; exact ⟨q0, q1, qP, kE_call qE, qD⟩, fun U hU hW => ⟨rfl, by rw [hU], by rw [hU]; exact hPc, kE_warm hW hE, hDc.weaken (fun _ _ _ _ => trivial)⟩⟩ rfl rfl hl.1 rfl (lv_room (Nat.le_of_ble_eq_true rfl)) dX11_image_67 ⟨Nat.le_of_ble_eq_true rfl, Nat.le_of_ble_eq_true rfl⟩) hS (fun q _ h => hFc q h) hFc (fun u t H locs ht hvm w14 hB hz1 hk1 hS => ?_)
  obtain ⟨f15, hq16, hP1, hD1⟩ := hB
  try dsimp only at w14
  obtain ⟨hPa, hDa⟩ := hJn (w1 := [(ra 31, .inl (kI, 8, .inl f15)), (ra 23, .inl (kI, 8, .inl q_notedGoal))]) hk1 ht hP1 hD1
  clear hP hD hPc hDc hFc hJn hP1 hD1 hk1
  have hP : va_P (dC, dI) vwCl [(m0, .inr (11, oX11 ra (upd (upd (upd (upd x0 0 0) 23 1) 24 (x0 17)) 25 (x0 21)))), (ra 12, .inl (kI, 3, .inl q_status)), (ra 24, .inl (kI, 8, .inl q_notedHop)), (ra 25, .inl (kI, 8, .inl q_notedAddress)), (ra 32, .inl (kI, 8, .inl q_notedHopThen)), (ra 33, .inl (kI, 8, .inl q_notedAddressThen)), (ra 34, .inl (kI, 3, .inl q_statusThen)), (ra 28, .inl (kI, 1019, .inl f3)), (ra 11, .inl (kI, 1019, .inl q_now)), (ra 29, .inl (kI, 40760, .inl f7)), (ra 16, .inl (kI, 40760, .inl q_past)), (ra 30, .inl (kI, 8, .inl f11)), (ra 22, .inl (kI, 8, .inl q_notedPort)), (ra 31, .inl (kI, 8, .inl f15)), (ra 23, .inl (kI, 8, .inl q_notedGoal))] H := hPa
  have hD : va_D A [(m0, .inr (11, oX11 ra (upd (upd (upd (upd x0 0 0) 23 1) 24 (x0 17)) 25 (x0 21)))), (ra 12, .inl (kI, 3, .inl q_status)), (ra 24, .inl (kI, 8, .inl q_notedHop)), (ra 25, .inl (kI, 8, .inl q_notedAddress)), (ra 32, .inl (kI, 8, .inl q_notedHopThen)), (ra 33, .inl (kI, 8, .inl q_notedAddressThen)), (ra 34, .inl (kI, 3, .inl q_statusThen)), (ra 28, .inl (kI, 1019, .inl f3)), (ra 11, .inl (kI, 1019, .inl q_now)), (ra 29, .inl (kI, 40760, .inl f7)), (ra 16, .inl (kI, 40760, .inl q_past)), (ra 30, .inl (kI, 8, .inl f11)), (ra 22, .inl (kI, 8, .inl q_notedPort)), (ra 31, .inl (kI, 8, .inl f15)), (ra 23, .inl (kI, 8, .inl q_notedGoal))] := hDa
  clear hPa hDa
  refine W.widen (k := 0) (n := 0) (Nat.le_of_ble_eq_true rfl) (Nat.le_of_ble_eq_true rfl) ?_
  refine lv_aload_n hx hb dX11_image_70 rfl (lv_at hl 0 rfl) ?_
  refine va_get (D := (dC, dI)) (ci := 11) (v := .ref (ra 32)) (C := RX11) (T := TX11) (N := 61) hx hb hts hin11 hown hK hP 0 rfl rfl 58 (Nat.le_of_ble_eq_true rfl) hw_14 (fun _ h9 => h9) rfl dX11_image_71 ?_
  refine lv_aload_n hx hb dX11_image_74 rfl (lv_at hl 0 rfl) ?_
  refine va_get (D := (dC, dI)) (ci := 11) (v := .ref (ra 24)) (C := RX11) (T := TX11) (N := 61) hx hb hts hin11 hown hK hP 0 rfl rfl 46 (Nat.le_of_ble_eq_true rfl) hw_15 (fun _ h9 => h9) rfl dX11_image_75 ?_
  obtain ⟨hPc, hDc, hFc, hJn⟩ := cl_a (wc := [(ra 32, .inl (kI, 8, .inl q_notedHopThen)), (ra 24, .inl (kI, 8, .inl q_notedHop))]) (wr := [(m0, .inr (11, oX11 ra (upd (upd (upd (upd x0 0 0) 23 1) 24 (x0 17)) 25 (x0 21)))), (ra 12, .inl (kI, 3, .inl q_status)), (ra 25, .inl (kI, 8, .inl q_notedAddress)), (ra 33, .inl (kI, 8, .inl q_notedAddressThen)), (ra 34, .inl (kI, 3, .inl q_statusThen)), (ra 28, .inl (kI, 1019, .inl f3)), (ra 11, .inl (kI, 1019, .inl q_now)), (ra 29, .inl (kI, 40760, .inl f7)), (ra 16, .inl (kI, 40760, .inl q_past)), (ra 30, .inl (kI, 8, .inl f11)), (ra 22, .inl (kI, 8, .inl q_notedPort)), (ra 31, .inl (kI, 8, .inl f15)), (ra 23, .inl (kI, 8, .inl q_notedGoal))]) hP hD hS hA [4, 2] [0, 1, 3, 5, 6, 7, 8, 9, 10, 11, 12, 13, 14] rfl rfl (by decide +kernel)
  refine va_callv (va_runS (As := [.ref (ra 32), .ref (ra 24)]) (rest := []) ⟨hx, hb, hml, hown, hts⟩ (s11_copyTo_any8 l dC dI kB kI kJ kZ kC kS H.size (ra 32) (ra 24) q_notedHopThen q_notedHop) (va_cwS 2 hts gX11_image_X11_copyTo rfl rfl rfl (by decide +kernel) ⟨Nat.le_of_ble_eq_true rfl, Nat.le_of_ble_eq_true rfl⟩) ⟨fun a U g mk q => by obtain ⟨q0, q1, qP, qE, qD⟩ := q; exact ⟨q0, q1, qP, kE_call qE, qD⟩, fun U hU hW => ⟨rfl, by rw [hU], by rw [hU]; exact hPc, kE_warm hW hE, hDc.weaken (fun _ _ _ _ => trivial)⟩⟩ rfl rfl hl.1 rfl (lv_room (Nat.le_of_ble_eq_true rfl)) dX11_image_78 ⟨Nat.le_of_ble_eq_true rfl, Nat.le_of_ble_eq_true rfl⟩) hS (fun q _ h => hFc q h) hFc (fun u t H locs ht hvm w18 hB hz1 hk1 hS => ?_)
  obtain ⟨f19, hP1, hD1⟩ := hB
  try dsimp only at w18
  obtain ⟨hPa, hDa⟩ := hJn (w1 := [(ra 32, .inl (kI, 8, .inl f19)), (ra 24, .inl (kI, 8, .inl q_notedHop))]) hk1 ht hP1 hD1
  clear hP hD hPc hDc hFc hJn hP1 hD1 hk1
  have hP : va_P (dC, dI) vwCl [(m0, .inr (11, oX11 ra (upd (upd (upd (upd x0 0 0) 23 1) 24 (x0 17)) 25 (x0 21)))), (ra 12, .inl (kI, 3, .inl q_status)), (ra 25, .inl (kI, 8, .inl q_notedAddress)), (ra 33, .inl (kI, 8, .inl q_notedAddressThen)), (ra 34, .inl (kI, 3, .inl q_statusThen)), (ra 28, .inl (kI, 1019, .inl f3)), (ra 11, .inl (kI, 1019, .inl q_now)), (ra 29, .inl (kI, 40760, .inl f7)), (ra 16, .inl (kI, 40760, .inl q_past)), (ra 30, .inl (kI, 8, .inl f11)), (ra 22, .inl (kI, 8, .inl q_notedPort)), (ra 31, .inl (kI, 8, .inl f15)), (ra 23, .inl (kI, 8, .inl q_notedGoal)), (ra 32, .inl (kI, 8, .inl f19)), (ra 24, .inl (kI, 8, .inl q_notedHop))] H := hPa
  have hD : va_D A [(m0, .inr (11, oX11 ra (upd (upd (upd (upd x0 0 0) 23 1) 24 (x0 17)) 25 (x0 21)))), (ra 12, .inl (kI, 3, .inl q_status)), (ra 25, .inl (kI, 8, .inl q_notedAddress)), (ra 33, .inl (kI, 8, .inl q_notedAddressThen)), (ra 34, .inl (kI, 3, .inl q_statusThen)), (ra 28, .inl (kI, 1019, .inl f3)), (ra 11, .inl (kI, 1019, .inl q_now)), (ra 29, .inl (kI, 40760, .inl f7)), (ra 16, .inl (kI, 40760, .inl q_past)), (ra 30, .inl (kI, 8, .inl f11)), (ra 22, .inl (kI, 8, .inl q_notedPort)), (ra 31, .inl (kI, 8, .inl f15)), (ra 23, .inl (kI, 8, .inl q_notedGoal)), (ra 32, .inl (kI, 8, .inl f19)), (ra 24, .inl (kI, 8, .inl q_notedHop))] := hDa
  clear hPa hDa
  refine W.widen (k := 0) (n := 0) (Nat.le_of_ble_eq_true rfl) (Nat.le_of_ble_eq_true rfl) ?_
  refine lv_aload_n hx hb dX11_image_81 rfl (lv_at hl 0 rfl) ?_
  refine va_get (D := (dC, dI)) (ci := 11) (v := .ref (ra 33)) (C := RX11) (T := TX11) (N := 61) hx hb hts hin11 hown hK hP 0 rfl rfl 59 (Nat.le_of_ble_eq_true rfl) hw_16 (fun _ h9 => h9) rfl dX11_image_82 ?_
  refine lv_aload_n hx hb dX11_image_85 rfl (lv_at hl 0 rfl) ?_
  refine va_get (D := (dC, dI)) (ci := 11) (v := .ref (ra 25)) (C := RX11) (T := TX11) (N := 61) hx hb hts hin11 hown hK hP 0 rfl rfl 47 (Nat.le_of_ble_eq_true rfl) hw_17 (fun _ h9 => h9) rfl dX11_image_86 ?_
  obtain ⟨hPc, hDc, hFc, hJn⟩ := cl_a (wc := [(ra 33, .inl (kI, 8, .inl q_notedAddressThen)), (ra 25, .inl (kI, 8, .inl q_notedAddress))]) (wr := [(m0, .inr (11, oX11 ra (upd (upd (upd (upd x0 0 0) 23 1) 24 (x0 17)) 25 (x0 21)))), (ra 12, .inl (kI, 3, .inl q_status)), (ra 34, .inl (kI, 3, .inl q_statusThen)), (ra 28, .inl (kI, 1019, .inl f3)), (ra 11, .inl (kI, 1019, .inl q_now)), (ra 29, .inl (kI, 40760, .inl f7)), (ra 16, .inl (kI, 40760, .inl q_past)), (ra 30, .inl (kI, 8, .inl f11)), (ra 22, .inl (kI, 8, .inl q_notedPort)), (ra 31, .inl (kI, 8, .inl f15)), (ra 23, .inl (kI, 8, .inl q_notedGoal)), (ra 32, .inl (kI, 8, .inl f19)), (ra 24, .inl (kI, 8, .inl q_notedHop))]) hP hD hS hA [3, 2] [0, 1, 4, 5, 6, 7, 8, 9, 10, 11, 12, 13, 14] rfl rfl (by decide +kernel)
  refine va_callv (va_runS (As := [.ref (ra 33), .ref (ra 25)]) (rest := []) ⟨hx, hb, hml, hown, hts⟩ (s11_copyTo_any8 l dC dI kB kI kJ kZ kC kS H.size (ra 33) (ra 25) q_notedAddressThen q_notedAddress) (va_cwS 2 hts gX11_image_X11_copyTo rfl rfl rfl (by decide +kernel) ⟨Nat.le_of_ble_eq_true rfl, Nat.le_of_ble_eq_true rfl⟩) ⟨fun a U g mk q => by obtain ⟨q0, q1, qP, qE, qD⟩ := q; exact ⟨q0, q1, qP, kE_call qE, qD⟩, fun U hU hW => ⟨rfl, by rw [hU], by rw [hU]; exact hPc, kE_warm hW hE, hDc.weaken (fun _ _ _ _ => trivial)⟩⟩ rfl rfl hl.1 rfl (lv_room (Nat.le_of_ble_eq_true rfl)) dX11_image_89 ⟨Nat.le_of_ble_eq_true rfl, Nat.le_of_ble_eq_true rfl⟩) hS (fun q _ h => hFc q h) hFc (fun u t H locs ht hvm w21 hB hz1 hk1 hS => ?_)
  obtain ⟨f22, hP1, hD1⟩ := hB
  try dsimp only at w21
  obtain ⟨hPa, hDa⟩ := hJn (w1 := [(ra 33, .inl (kI, 8, .inl f22)), (ra 25, .inl (kI, 8, .inl q_notedAddress))]) hk1 ht hP1 hD1
  clear hP hD hPc hDc hFc hJn hP1 hD1 hk1
  have hP : va_P (dC, dI) vwCl [(m0, .inr (11, oX11 ra (upd (upd (upd (upd x0 0 0) 23 1) 24 (x0 17)) 25 (x0 21)))), (ra 12, .inl (kI, 3, .inl q_status)), (ra 34, .inl (kI, 3, .inl q_statusThen)), (ra 28, .inl (kI, 1019, .inl f3)), (ra 11, .inl (kI, 1019, .inl q_now)), (ra 29, .inl (kI, 40760, .inl f7)), (ra 16, .inl (kI, 40760, .inl q_past)), (ra 30, .inl (kI, 8, .inl f11)), (ra 22, .inl (kI, 8, .inl q_notedPort)), (ra 31, .inl (kI, 8, .inl f15)), (ra 23, .inl (kI, 8, .inl q_notedGoal)), (ra 32, .inl (kI, 8, .inl f19)), (ra 24, .inl (kI, 8, .inl q_notedHop)), (ra 33, .inl (kI, 8, .inl f22)), (ra 25, .inl (kI, 8, .inl q_notedAddress))] H := hPa
  have hD : va_D A [(m0, .inr (11, oX11 ra (upd (upd (upd (upd x0 0 0) 23 1) 24 (x0 17)) 25 (x0 21)))), (ra 12, .inl (kI, 3, .inl q_status)), (ra 34, .inl (kI, 3, .inl q_statusThen)), (ra 28, .inl (kI, 1019, .inl f3)), (ra 11, .inl (kI, 1019, .inl q_now)), (ra 29, .inl (kI, 40760, .inl f7)), (ra 16, .inl (kI, 40760, .inl q_past)), (ra 30, .inl (kI, 8, .inl f11)), (ra 22, .inl (kI, 8, .inl q_notedPort)), (ra 31, .inl (kI, 8, .inl f15)), (ra 23, .inl (kI, 8, .inl q_notedGoal)), (ra 32, .inl (kI, 8, .inl f19)), (ra 24, .inl (kI, 8, .inl q_notedHop)), (ra 33, .inl (kI, 8, .inl f22)), (ra 25, .inl (kI, 8, .inl q_notedAddress))] := hDa
  clear hPa hDa
  refine W.widen (k := 0) (n := 0) (Nat.le_of_ble_eq_true rfl) (Nat.le_of_ble_eq_true rfl) ?_
  refine lv_aload_n hx hb dX11_image_92 rfl (lv_at hl 0 rfl) ?_
  refine va_get (D := (dC, dI)) (ci := 11) (v := .ref (ra 34)) (C := RX11) (T := TX11) (N := 61) hx hb hts hin11 hown hK hP 0 rfl rfl 60 (Nat.le_of_ble_eq_true rfl) hw_18 (fun _ h9 => h9) rfl dX11_image_93 ?_
  refine lv_aload_n hx hb dX11_image_96 rfl (lv_at hl 0 rfl) ?_
  refine va_get (D := (dC, dI)) (ci := 11) (v := .ref (ra 12)) (C := RX11) (T := TX11) (N := 61) hx hb hts hin11 hown hK hP 0 rfl rfl 13 (Nat.le_of_ble_eq_true rfl) hw_19 (fun _ h9 => h9) rfl dX11_image_97 ?_
  obtain ⟨hPc, hDc, hFc, hJn⟩ := cl_a (wc := [(ra 34, .inl (kI, 3, .inl q_statusThen)), (ra 12, .inl (kI, 3, .inl q_status))]) (wr := [(m0, .inr (11, oX11 ra (upd (upd (upd (upd x0 0 0) 23 1) 24 (x0 17)) 25 (x0 21)))), (ra 28, .inl (kI, 1019, .inl f3)), (ra 11, .inl (kI, 1019, .inl q_now)), (ra 29, .inl (kI, 40760, .inl f7)), (ra 16, .inl (kI, 40760, .inl q_past)), (ra 30, .inl (kI, 8, .inl f11)), (ra 22, .inl (kI, 8, .inl q_notedPort)), (ra 31, .inl (kI, 8, .inl f15)), (ra 23, .inl (kI, 8, .inl q_notedGoal)), (ra 32, .inl (kI, 8, .inl f19)), (ra 24, .inl (kI, 8, .inl q_notedHop)), (ra 33, .inl (kI, 8, .inl f22)), (ra 25, .inl (kI, 8, .inl q_notedAddress))]) hP hD hS hA [2, 1] [0, 3, 4, 5, 6, 7, 8, 9, 10, 11, 12, 13, 14] rfl rfl (by decide +kernel)
  refine va_callv (va_runS (As := [.ref (ra 34), .ref (ra 12)]) (rest := []) ⟨hx, hb, hml, hown, hts⟩ (s11_copyTo_any3 l dC dI kB kI kJ kZ kC kS H.size (ra 34) (ra 12) q_statusThen q_status) (va_cwS 2 hts gX11_image_X11_copyTo rfl rfl rfl (by decide +kernel) ⟨Nat.le_of_ble_eq_true rfl, Nat.le_of_ble_eq_true rfl⟩) ⟨fun a U g mk q => by obtain ⟨q0, q1, qP, qE, qD⟩ := q; exact ⟨q0, q1, qP, kE_call qE, qD⟩, fun U hU hW => ⟨rfl, by rw [hU], by rw [hU]; exact hPc, kE_warm hW hE, hDc.weaken (fun _ _ _ _ => trivial)⟩⟩ rfl rfl hl.1 rfl (lv_room (Nat.le_of_ble_eq_true rfl)) dX11_image_100 ⟨Nat.le_of_ble_eq_true rfl, Nat.le_of_ble_eq_true rfl⟩) hS (fun q _ h => hFc q h) hFc (fun u t H locs ht hvm w24 hB hz1 hk1 hS => ?_)
  obtain ⟨f25, hP1, hD1⟩ := hB
  try dsimp only at w24
  obtain ⟨hPa, hDa⟩ := hJn (w1 := [(ra 34, .inl (kI, 3, .inl f25)), (ra 12, .inl (kI, 3, .inl q_status))]) hk1 ht hP1 hD1
  clear hP hD hPc hDc hFc hJn hP1 hD1 hk1
  have hP : va_P (dC, dI) vwCl [(m0, .inr (11, oX11 ra (upd (upd (upd (upd x0 0 0) 23 1) 24 (x0 17)) 25 (x0 21)))), (ra 28, .inl (kI, 1019, .inl f3)), (ra 11, .inl (kI, 1019, .inl q_now)), (ra 29, .inl (kI, 40760, .inl f7)), (ra 16, .inl (kI, 40760, .inl q_past)), (ra 30, .inl (kI, 8, .inl f11)), (ra 22, .inl (kI, 8, .inl q_notedPort)), (ra 31, .inl (kI, 8, .inl f15)), (ra 23, .inl (kI, 8, .inl q_notedGoal)), (ra 32, .inl (kI, 8, .inl f19)), (ra 24, .inl (kI, 8, .inl q_notedHop)), (ra 33, .inl (kI, 8, .inl f22)), (ra 25, .inl (kI, 8, .inl q_notedAddress)), (ra 34, .inl (kI, 3, .inl f25)), (ra 12, .inl (kI, 3, .inl q_status))] H := hPa
  have hD : va_D A [(m0, .inr (11, oX11 ra (upd (upd (upd (upd x0 0 0) 23 1) 24 (x0 17)) 25 (x0 21)))), (ra 28, .inl (kI, 1019, .inl f3)), (ra 11, .inl (kI, 1019, .inl q_now)), (ra 29, .inl (kI, 40760, .inl f7)), (ra 16, .inl (kI, 40760, .inl q_past)), (ra 30, .inl (kI, 8, .inl f11)), (ra 22, .inl (kI, 8, .inl q_notedPort)), (ra 31, .inl (kI, 8, .inl f15)), (ra 23, .inl (kI, 8, .inl q_notedGoal)), (ra 32, .inl (kI, 8, .inl f19)), (ra 24, .inl (kI, 8, .inl q_notedHop)), (ra 33, .inl (kI, 8, .inl f22)), (ra 25, .inl (kI, 8, .inl q_notedAddress)), (ra 34, .inl (kI, 3, .inl f25)), (ra 12, .inl (kI, 3, .inl q_status))] := hDa
  clear hPa hDa
  refine W.widen (k := 0) (n := 0) (Nat.le_of_ble_eq_true rfl) (Nat.le_of_ble_eq_true rfl) ?_
  have hPD9 := cl_s (wc := [(m0, .inr (11, oX11 ra (upd (upd (upd (upd x0 0 0) 23 1) 24 (x0 17)) 25 (x0 21)))), (ra 11, .inl (kI, 1019, .inl q_now)), (ra 12, .inl (kI, 3, .inl q_status)), (ra 16, .inl (kI, 40760, .inl q_past)), (ra 22, .inl (kI, 8, .inl q_notedPort)), (ra 23, .inl (kI, 8, .inl q_notedGoal)), (ra 24, .inl (kI, 8, .inl q_notedHop)), (ra 25, .inl (kI, 8, .inl q_notedAddress)), (ra 28, .inl (kI, 1019, .inl f3)), (ra 29, .inl (kI, 40760, .inl f7)), (ra 30, .inl (kI, 8, .inl f11)), (ra 31, .inl (kI, 8, .inl f15)), (ra 32, .inl (kI, 8, .inl f19)), (ra 33, .inl (kI, 8, .inl f22)), (ra 34, .inl (kI, 3, .inl f25))]) hP hD [0, 2, 14, 4, 6, 8, 10, 12, 1, 3, 5, 7, 9, 11, 13] rfl (by decide +kernel)
  have hP9 := hPD9.1
  have hD9 := hPD9.2
  exact W.vret hx hb hr (fun t ht hW => ⟨⟨(), rfl, trivial, upd (upd (upd (upd x0 0 0) 23 1) 24 (x0 17)) 25 (x0 21), f3, f7, f11, f15, f19, f22, f25, (fI_u (fI_u (fI_u (fI_u hX (k := 0) ((iv_w ivk_0 (by decide) (by decide)))) (k := 23) ((iv_w ivk_1 (by decide) (by decide)))) (k := 24) ((hX 17 : iv 0 40 (x0 17)))) (k := 25) ((hX 21 : iv 0 8 (x0 21)))), hq4, hq8, hq12, hq16, (show x0 1 = x0 1 from rfl), (show x0 10 = x0 10 from rfl), (show x0 11 = x0 11 from rfl), (show x0 14 = x0 14 from rfl), by rw [ht]; exact hP9, hD9⟩, hS.F ht⟩) hS.2.2 dX11_image_103
