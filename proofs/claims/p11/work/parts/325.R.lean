def rm_s11_link : Room := { frames := 1, cells := 0, slots := 0, locals := 22 }
set_option maxHeartbeats 4000000 in
set_option maxRecDepth 100000 in
theorem s11_link (l : Launch) (dC : Nat → ClassId) (dI : Nat → Nat → Nat) (kB kI kJ kZ kC kS : ClassId) (sz : Nat) (m0 : Nat) (ra : Nat → Nat) (x0 : Nat → Int32) (q_told : Nat → Int32) (q_from : Nat → Int32) (q_to : Nat → Int32) (p0 : Int32) (p1 : Int32) (hX : fI lX11 hX11 x0) (hq_told : fI lTold hTold q_told) (hq_from : fI (fun _ => 0) (fun _ => 11) q_from) (hq_to : fI (fun _ => 0) (fun _ => 11) q_to) : Met l yX11_link wsX11_link rm_s11_link (va_Pc [.ref m0, .int p0, .int p1] (fun U => U.heap.size = sz ∧ va_P (dC, dI) vwCl [(m0, .inr (11, oX11 ra x0)), (ra 2, .inl (kI, 8, .inl q_told)), (ra 8, .inl (kI, 40, .inl q_from)), (ra 9, .inl (kI, 40, .inl q_to))] U.heap ∧ kE dC dI kB kI kJ kZ kC kS U ∧ va_D (fun _ => True) [(m0, .inr (11, oX11 ra x0)), (ra 2, .inl (kI, 8, .inl q_told)), (ra 8, .inl (kI, 40, .inl q_from)), (ra 9, .inl (kI, 40, .inl q_to))])) (va_Qi (fun (r : Int32) (_ : Unit) => iv 0 11 r) (fun _ t => ∃ (x0' : Nat → Int32), fI lX11 hX11 x0' ∧ va_P (dC, dI) vwCl [(m0, .inr (11, oX11 ra x0')), (ra 2, .inl (kI, 8, .inl q_told)), (ra 8, .inl (kI, 40, .inl q_from)), (ra 9, .inl (kI, 40, .inl q_to))] t.heap ∧ va_D (va_A [(m0, .inr (11, oX11 ra x0)), (ra 2, .inl (kI, 8, .inl q_told)), (ra 8, .inl (kI, 40, .inl q_from)), (ra 9, .inl (kI, 40, .inl q_to))] sz) [(m0, .inr (11, oX11 ra x0')), (ra 2, .inl (kI, 8, .inl q_told)), (ra 8, .inl (kI, 40, .inl q_from)), (ra 9, .inl (kI, 40, .inl q_to))]) (va_A [(m0, .inr (11, oX11 ra x0)), (ra 2, .inl (kI, 8, .inl q_told)), (ra 8, .inl (kI, 40, .inl q_from)), (ra 9, .inl (kI, 40, .inl q_to))] sz)) 0 0 (va_A [(m0, .inr (11, oX11 ra x0)), (ra 2, .inl (kI, 8, .inl q_told)), (ra 8, .inl (kI, 40, .inl q_from)), (ra 9, .inl (kI, 40, .inl q_to))] sz) := by
  refine Met.ofW (cc := cX11_link) (maxL := 3) (ret := (some .int)) (by decide) rfl ?_
  intro p e s m args0 below meth c s₁ B hml hv
  obtain ⟨hargs, hsz, hP, hE, hD0⟩ := hv
  have hx := B.exec
  have hb := B.bytes
  have hr := B.returns
  have hts := atoms_spec (ws := wsX11_link) B.pre
  have hown : s.vm.findClass RX11 = some m.cls := findClass_of_methodNamed B.named
  have hlocks := B.notSynchronized
  have hK := hE.1
  have hin11 : ∀ w ∈ wsX110, w ∈ wsX11_link := fun _ h9 => List.mem_cons_of_mem _ (List.mem_append_right _ h9)
  have hw_0 := hts (.fieldLink RX11 142 "PathProberModel" "code" "I") (List.mem_of_getElem? (i := 1) (by decide +kernel))
  have hw_1 := hts (.fieldLink RX11 56 "PathProberModel" "to" "[I") (List.mem_of_getElem? (i := 3) (by decide +kernel))
  have hw_2 := hts (.fieldLink RX11 53 "PathProberModel" "from" "[I") (List.mem_of_getElem? (i := 2) (by decide +kernel))
  subst hsz
  have hD := hD0.self (sz := s.heap.size)
  generalize hAe : va_A [(m0, .inr (11, oX11 ra x0)), (ra 2, .inl (kI, 8, .inl q_told)), (ra 8, .inl (kI, 40, .inl q_from)), (ra 9, .inl (kI, 40, .inl q_to))] s.heap.size = A at hD ⊢
  have hA : ∀ q : Nat, s.heap.size ≤ q → A q := fun q h => by rw [← hAe]; exact Or.inr h
  have hS : va_S A s.heap s.heap [] := va_S.rf
  have hP : va_P (dC, dI) vwCl [(m0, .inr (11, oX11 ra x0)), (ra 2, .inl (kI, 8, .inl q_told)), (ra 8, .inl (kI, 40, .inl q_from)), (ra 9, .inl (kI, 40, .inl q_to))] s.heap := hP
  have hl := lv_entry ([.ref m0, .int p0, .int p1]) (n := 3) (Nat.le_of_ble_eq_true rfl)
  have hla : entryFrame m args0 3 = entryFrame m ([.ref m0, .int p0, .int p1] : List Value).toArray 3 := by rw [hargs]
  rw [hla, lg_entry_eq]
  generalize (lg_sl ([.ref m0, .int p0, .int p1]) ++ List.replicate (3 - (lg_sl ([.ref m0, .int p0, .int p1])).length) Slot.unset).toArray = ls at hl ⊢
  have hl : lv_has ls 3 [(0, .ref m0), (1, .int p0), (2, .int p1)] := hl
  have hJ50 : ∀ (y50_0 : Nat → Int32) (H : Heap) (locs : List Loc) (ls : Array Slot), fI lX11 hX11 y50_0 → iv 0 0 (y50_0 0) → va_P (dC, dI) vwCl [(m0, .inr (11, oX11 ra y50_0)), (ra 2, .inl (kI, 8, .inl q_told)), (ra 8, .inl (kI, 40, .inl q_from)), (ra 9, .inl (kI, 40, .inl q_to))] H → va_D A [(m0, .inr (11, oX11 ra y50_0)), (ra 2, .inl (kI, 8, .inl q_told)), (ra 8, .inl (kI, 40, .inl q_from)), (ra 9, .inl (kI, 40, .inl q_to))] → va_S A s.heap H locs → lv_has ls 3 [(0, .ref m0), (1, .int p0), (2, .int p1)] → W p l e (headSpec wsX11_link rm_s11_link).room s m args0 below meth c H locs (0) (0) (MQ below (va_Qi (fun (r : Int32) (_ : Unit) => iv 0 11 r) (fun _ t => ∃ (x0' : Nat → Int32), fI lX11 hX11 x0' ∧ va_P (dC, dI) vwCl [(m0, .inr (11, oX11 ra x0')), (ra 2, .inl (kI, 8, .inl q_told)), (ra 8, .inl (kI, 40, .inl q_from)), (ra 9, .inl (kI, 40, .inl q_to))] t.heap ∧ va_D A [(m0, .inr (11, oX11 ra x0')), (ra 2, .inl (kI, 8, .inl q_told)), (ra 8, .inl (kI, 40, .inl q_from)), (ra 9, .inl (kI, 40, .inl q_to))]) A) args0 s 0 0 A) (F0 m 50 ls []) := by
    intro y50_0 H locs ls hI50_0 h50_2 hP hD hS hl
    refine lv_aload_n hx hb dX11_link_50 rfl (lv_at hl 0 rfl) ?_
    refine lv_iconst (v := 1) hx hb dX11_link_51 (by decide) ?_
    have hPc := hP.sub (ws' := [(m0, .inr (11, oX11 ra y50_0))]) [0] rfl
    have hDc := hD.sub (ws' := [(m0, .inr (11, oX11 ra y50_0))]) [0] (by decide) rfl
    have hFc := va_free (wc := [(m0, .inr (11, oX11 ra y50_0))]) hD hS hA [0] rfl
    refine va_calli (va_runV (As := [.int 1]) (rest := []) ⟨hx, hb, hml, hown, hts⟩ (s11_fail l dC dI kB kI kJ kZ kC kS H.size m0 ra y50_0 1 (hI50_0)) (cwV 1 hts gX11_link_X11_fail rfl rfl rfl (by decide +kernel) ⟨Nat.le_of_ble_eq_true rfl, Nat.le_of_ble_eq_true rfl⟩) ⟨fun a U g mk q => by obtain ⟨q0, q1, qP, qE, qD⟩ := q; exact ⟨q0, q1, qP, kE_call qE, qD⟩, va_recv hK hP (ci := 11) (q0 := 0) rfl rfl, fun U hU hW => ⟨rfl, by rw [hU], by rw [hU]; exact hPc, kE_warm hW hE, hDc.weaken (fun _ _ _ _ => trivial)⟩⟩ rfl rfl hl.1 rfl (lv_room (Nat.le_of_ble_eq_true rfl)) dX11_link_52 ⟨Nat.le_of_ble_eq_true rfl, Nat.le_of_ble_eq_true rfl⟩) hS (fun q _ h => hFc q h) hFc (fun r1 u t H1 locs ht hvm w2 hB hz1 hk1 hS => ?_)
    obtain ⟨y3, hq4, hq5, hP1, hD1⟩ := hB
    rw [ht] at hP1
    try dsimp only at w2
    obtain ⟨hP, hD⟩ := va_join (wr := [(ra 2, .inl (kI, 8, .inl q_told)), (ra 8, .inl (kI, 40, .inl q_from)), (ra 9, .inl (kI, 40, .inl q_to))]) (w1 := [(m0, .inr (11, oX11 ra y3))]) hP hD [0] [1, 2, 3] rfl rfl (by decide) (by decide) hk1 hFc hP1 hD1
    generalize H1 = H at hP hS ⊢
    have hP : va_P (dC, dI) vwCl [(ra 2, .inl (kI, 8, .inl q_told)), (ra 8, .inl (kI, 40, .inl q_from)), (ra 9, .inl (kI, 40, .inl q_to)), (m0, .inr (11, oX11 ra y3))] H := hP
    have hD : va_D A [(ra 2, .inl (kI, 8, .inl q_told)), (ra 8, .inl (kI, 40, .inl q_from)), (ra 9, .inl (kI, 40, .inl q_to)), (m0, .inr (11, oX11 ra y3))] := hD
    refine W.widen (k := 0) (n := 0) (Nat.le_of_ble_eq_true rfl) (Nat.le_of_ble_eq_true rfl) ?_
    obtain rfl : r1 = 0 := iv_one w2 (by decide)
    have hP9 := hP.sub (ws' := [(m0, .inr (11, oX11 ra y3)), (ra 2, .inl (kI, 8, .inl q_told)), (ra 8, .inl (kI, 40, .inl q_from)), (ra 9, .inl (kI, 40, .inl q_to))]) [3, 0, 1, 2] rfl
    have hD9 := hD.sub (ws' := [(m0, .inr (11, oX11 ra y3)), (ra 2, .inl (kI, 8, .inl q_told)), (ra 8, .inl (kI, 40, .inl q_from)), (ra 9, .inl (kI, 40, .inl q_to))]) [3, 0, 1, 2] (by decide) rfl
    exact W.iret (v := 0) hx hb hr (fun t ht hW => ⟨⟨0, (), rfl, (iv_w (iv_k (by decide) (by decide) : iv 0 0 0) (by decide) (by decide)), y3, hq4, by rw [ht]; exact hP9, hD9⟩, hS.F ht⟩) hS.2.2 dX11_link_55
  refine lv_aload_n hx hb dX11_link_0 rfl (lv_at hl 0 rfl) ?_
  refine lv_iconst (v := 0) hx hb dX11_link_1 (by decide) ?_
  refine va_put (D := (dC, dI)) (ci := 11) (v := .int 0) (ty := .int) (C := RX11) (T := TX11) (N := 61) hx hb hts hin11 tyX11 tyX11_ok nmX11 hown hK hP hD hS 0 rfl rfl 2 (by decide) hw_0 (fun _ h9 => h9) rfl (by decide +kernel) rfl rfl (Nat.le_of_ble_eq_true rfl) dX11_link_2 (fun H locs hP hD hS => ?_)
  have hP : va_P (dC, dI) vwCl [(m0, .inr (11, oX11 ra (upd x0 0 0))), (ra 2, .inl (kI, 8, .inl q_told)), (ra 8, .inl (kI, 40, .inl q_from)), (ra 9, .inl (kI, 40, .inl q_to))] H := hP
  have hD : va_D A [(m0, .inr (11, oX11 ra (upd x0 0 0))), (ra 2, .inl (kI, 8, .inl q_told)), (ra 8, .inl (kI, 40, .inl q_from)), (ra 9, .inl (kI, 40, .inl q_to))] := hD
  refine lv_iload_n hx hb dX11_link_5 rfl (lv_at hl 1 rfl) ?_
  refine lv_iconst (v := 0) hx hb dX11_link_6 (by decide) ?_
  refine lv_aload_n hx hb dX11_link_7 rfl (lv_at hl 0 rfl) ?_
  have hPc := hP.sub (ws' := [(m0, .inr (11, oX11 ra (upd x0 0 0))), (ra 2, .inl (kI, 8, .inl q_told))]) [0, 1] rfl
  have hDc := hD.sub (ws' := [(m0, .inr (11, oX11 ra (upd x0 0 0))), (ra 2, .inl (kI, 8, .inl q_told))]) [0, 1] (by decide) rfl
  have hFc := va_free (wc := [(m0, .inr (11, oX11 ra (upd x0 0 0))), (ra 2, .inl (kI, 8, .inl q_told))]) hD hS hA [0, 1] rfl
  refine va_calli (va_runV (As := []) (rest := [.int 0, .int p0]) ⟨hx, hb, hml, hown, hts⟩ (s11_links l dC dI kB kI kJ kZ kC kS H.size m0 ra (upd x0 0 0) q_told ((fI_u hX (k := 0) ((iv_w (iv_k (by decide) (by decide) : iv 0 0 0) (by decide) (by decide))))) (hq_told)) (cwV 0 hts gX11_link_X11_links rfl rfl rfl (by decide +kernel) ⟨Nat.le_of_ble_eq_true rfl, Nat.le_of_ble_eq_true rfl⟩) ⟨fun a U g mk q => by obtain ⟨q0, q1, qP, qE, qD⟩ := q; exact ⟨q0, q1, qP, kE_call qE, qD⟩, va_recv hK hP (ci := 11) (q0 := 0) rfl rfl, fun U hU hW => ⟨rfl, by rw [hU], by rw [hU]; exact hPc, kE_warm hW hE, hDc.weaken (fun _ _ _ _ => trivial)⟩⟩ rfl rfl hl.1 rfl (lv_room (Nat.le_of_ble_eq_true rfl)) dX11_link_8 ⟨Nat.le_of_ble_eq_true rfl, Nat.le_of_ble_eq_true rfl⟩) hS (fun q _ h => hFc q h) hFc (fun r6 u t H1 locs ht hvm w7 hB hz1 hk1 hS => ?_)
  obtain ⟨hP1, hD1⟩ := hB
  rw [ht] at hP1
  try dsimp only at w7
  obtain ⟨hP, hD⟩ := va_join (wr := [(ra 8, .inl (kI, 40, .inl q_from)), (ra 9, .inl (kI, 40, .inl q_to))]) (w1 := [(m0, .inr (11, oX11 ra (upd x0 0 0))), (ra 2, .inl (kI, 8, .inl q_told))]) hP hD [0, 1] [2, 3] rfl rfl (by decide) (by decide) hk1 hFc hP1 hD1
  generalize H1 = H at hP hS ⊢
  have hP : va_P (dC, dI) vwCl [(ra 8, .inl (kI, 40, .inl q_from)), (ra 9, .inl (kI, 40, .inl q_to)), (m0, .inr (11, oX11 ra (upd x0 0 0))), (ra 2, .inl (kI, 8, .inl q_told))] H := hP
  have hD : va_D A [(ra 8, .inl (kI, 40, .inl q_from)), (ra 9, .inl (kI, 40, .inl q_to)), (m0, .inr (11, oX11 ra (upd x0 0 0))), (ra 2, .inl (kI, 8, .inl q_told))] := hD
  refine W.widen (k := 0) (n := 0) (Nat.le_of_ble_eq_true rfl) (Nat.le_of_ble_eq_true rfl) ?_
  subst w7
  refine lv_iconst (v := 1) hx hb dX11_link_11 (by decide) ?_
  refine lv_isub hx hb dX11_link_12 ?_
  refine iv_top (a := (-1)) (b := 19) (iv_sub (hq_told 1 : iv 0 20 (q_told 1)) (iv_k (by decide) (by decide) : iv 1 1 1) (by decide) (by decide) (by decide) (by decide)) (fun z8 b9 => ?_)
  have hPc := hP.sub (ws' := []) [] rfl
  have hDc := hD.sub (ws' := []) [] (by decide) rfl
  have hFc := va_free (wc := []) hD hS hA [] rfl
  refine va_calli (va_runS (As := [.int p0, .int 0, .int z8]) (rest := []) ⟨hx, hb, hml, hown, hts⟩ (s11_isIn l dC dI kB kI kJ kZ kC kS H.size p0 0 z8) (va_cwS 3 hts gX11_link_X11_isIn rfl rfl rfl (by decide +kernel) ⟨Nat.le_of_ble_eq_true rfl, Nat.le_of_ble_eq_true rfl⟩) ⟨fun a U g mk q => by obtain ⟨q0, q1, qP, qE, qD⟩ := q; exact ⟨q0, q1, qP, kE_call qE, qD⟩, fun U hU hW => ⟨rfl, by rw [hU], by rw [hU]; exact hPc, kE_warm hW hE, hDc.weaken (fun _ _ _ _ => trivial)⟩⟩ rfl rfl hl.1 rfl (lv_room (Nat.le_of_ble_eq_true rfl)) dX11_link_13 ⟨Nat.le_of_ble_eq_true rfl, Nat.le_of_ble_eq_true rfl⟩) hS (fun q _ h => hFc q h) hFc (fun r10 u t H1 locs ht hvm w11 hB hz1 hk1 hS => ?_)
  obtain ⟨hP1, hD1⟩ := hB
  rw [ht] at hP1
  try dsimp only at w11
  obtain ⟨hP, hD⟩ := va_join (wr := [(ra 8, .inl (kI, 40, .inl q_from)), (ra 9, .inl (kI, 40, .inl q_to)), (m0, .inr (11, oX11 ra (upd x0 0 0))), (ra 2, .inl (kI, 8, .inl q_told))]) (w1 := []) hP hD [] [0, 1, 2, 3] rfl rfl (by decide) (by decide) hk1 hFc hP1 hD1
  generalize H1 = H at hP hS ⊢
  have hP : va_P (dC, dI) vwCl [(ra 8, .inl (kI, 40, .inl q_from)), (ra 9, .inl (kI, 40, .inl q_to)), (m0, .inr (11, oX11 ra (upd x0 0 0))), (ra 2, .inl (kI, 8, .inl q_told))] H := hP
  have hD : va_D A [(ra 8, .inl (kI, 40, .inl q_from)), (ra 9, .inl (kI, 40, .inl q_to)), (m0, .inr (11, oX11 ra (upd x0 0 0))), (ra 2, .inl (kI, 8, .inl q_told))] := hD
  refine W.widen (k := 0) (n := 0) (Nat.le_of_ble_eq_true rfl) (Nat.le_of_ble_eq_true rfl) ?_
  refine lv_if_eq (tgt := 50) hx hb dX11_link_16 (by decide) (fun c12 => ?_) (fun c12 => ?_)
  · have b13 : iv 0 0 r10 := iv_eqL c12 (iv_k (by decide) (by decide) : iv 0 0 0)
    exact hJ50 (upd x0 0 0) _ _ _ ((fI_u hX (k := 0) ((iv_w (iv_k (by decide) (by decide) : iv 0 0 0) (by decide) (by decide))))) ((iv_k (by decide) (by decide) : iv 0 0 0)) (hP.sub [2, 3, 0, 1] rfl) (hD.sub [2, 3, 0, 1] (by decide) rfl) hS (lv_sub hl [0, 1, 2] rfl)
  · have b14 : iv 1 1 r10 := iv_neLo c12 w11.1 (iv_k (by decide) (by decide) : iv 0 0 0) (by decide) (by decide)
    have hr15 := (w11.2).resolve_left (iv_ne b14 (iv_k (by decide) (by decide) : iv 0 0 0) (by decide))
    have b16 : iv 0 19 p0 := iv_cap (in_iv hr15 (iv_k (by decide) (by decide) : iv 0 0 0) b9) (iv_t p0) (by decide) (by decide)
    refine lv_iload_n hx hb dX11_link_19 rfl (lv_at hl 2 rfl) ?_
    refine lv_iconst (v := 0) hx hb dX11_link_20 (by decide) ?_
    refine lv_iconst (v := 1) hx hb dX11_link_21 (by decide) ?_
    have hPc := hP.sub (ws' := []) [] rfl
    have hDc := hD.sub (ws' := []) [] (by decide) rfl
    have hFc := va_free (wc := []) hD hS hA [] rfl
    refine va_calli (va_runS (As := [.int p1, .int 0, .int 1]) (rest := []) ⟨hx, hb, hml, hown, hts⟩ (s11_isIn l dC dI kB kI kJ kZ kC kS H.size p1 0 1) (va_cwS 3 hts gX11_link_X11_isIn rfl rfl rfl (by decide +kernel) ⟨Nat.le_of_ble_eq_true rfl, Nat.le_of_ble_eq_true rfl⟩) ⟨fun a U g mk q => by obtain ⟨q0, q1, qP, qE, qD⟩ := q; exact ⟨q0, q1, qP, kE_call qE, qD⟩, fun U hU hW => ⟨rfl, by rw [hU], by rw [hU]; exact hPc, kE_warm hW hE, hDc.weaken (fun _ _ _ _ => trivial)⟩⟩ rfl rfl hl.1 rfl (lv_room (Nat.le_of_ble_eq_true rfl)) dX11_link_22 ⟨Nat.le_of_ble_eq_true rfl, Nat.le_of_ble_eq_true rfl⟩) hS (fun q _ h => hFc q h) hFc (fun r17 u t H1 locs ht hvm w18 hB hz1 hk1 hS => ?_)
    obtain ⟨hP1, hD1⟩ := hB
    rw [ht] at hP1
    try dsimp only at w18
    obtain ⟨hP, hD⟩ := va_join (wr := [(ra 8, .inl (kI, 40, .inl q_from)), (ra 9, .inl (kI, 40, .inl q_to)), (m0, .inr (11, oX11 ra (upd x0 0 0))), (ra 2, .inl (kI, 8, .inl q_told))]) (w1 := []) hP hD [] [0, 1, 2, 3] rfl rfl (by decide) (by decide) hk1 hFc hP1 hD1
    generalize H1 = H at hP hS ⊢
    have hP : va_P (dC, dI) vwCl [(ra 8, .inl (kI, 40, .inl q_from)), (ra 9, .inl (kI, 40, .inl q_to)), (m0, .inr (11, oX11 ra (upd x0 0 0))), (ra 2, .inl (kI, 8, .inl q_told))] H := hP
    have hD : va_D A [(ra 8, .inl (kI, 40, .inl q_from)), (ra 9, .inl (kI, 40, .inl q_to)), (m0, .inr (11, oX11 ra (upd x0 0 0))), (ra 2, .inl (kI, 8, .inl q_told))] := hD
    refine W.widen (k := 0) (n := 0) (Nat.le_of_ble_eq_true rfl) (Nat.le_of_ble_eq_true rfl) ?_
    refine lv_if_eq (tgt := 50) hx hb dX11_link_25 (by decide) (fun c19 => ?_) (fun c19 => ?_)
    · have b20 : iv 0 0 r17 := iv_eqL c19 (iv_k (by decide) (by decide) : iv 0 0 0)
      exact hJ50 (upd x0 0 0) _ _ _ ((fI_u hX (k := 0) ((iv_w (iv_k (by decide) (by decide) : iv 0 0 0) (by decide) (by decide))))) ((iv_k (by decide) (by decide) : iv 0 0 0)) (hP.sub [2, 3, 0, 1] rfl) (hD.sub [2, 3, 0, 1] (by decide) rfl) hS (lv_sub hl [0, 1, 2] rfl)
    · have b21 : iv 1 1 r17 := iv_neLo c19 w18.1 (iv_k (by decide) (by decide) : iv 0 0 0) (by decide) (by decide)
      have hr22 := (w18.2).resolve_left (iv_ne b21 (iv_k (by decide) (by decide) : iv 0 0 0) (by decide))
      have b23 : iv 0 1 p1 := iv_cap (in_iv hr22 (iv_k (by decide) (by decide) : iv 0 0 0) (iv_k (by decide) (by decide) : iv 1 1 1)) (iv_t p1) (by decide) (by decide)
      refine lv_iload_n hx hb dX11_link_28 rfl (lv_at hl 2 rfl) ?_
      refine lv_if_ne (tgt := 41) hx hb dX11_link_29 (by decide) (fun c24 => ?_) (fun c24 => ?_)
      · have b25 : iv 1 1 p1 := iv_neLo c24 b23 (iv_k (by decide) (by decide) : iv 0 0 0) (by decide) (by decide)
        refine lv_aload_n hx hb dX11_link_41 rfl (lv_at hl 0 rfl) ?_
        refine va_get (D := (dC, dI)) (ci := 11) (v := .ref (ra 9)) (C := RX11) (T := TX11) (N := 61) hx hb hts hin11 hown hK hP 2 rfl rfl 10 (by decide) hw_1 (fun _ h9 => h9) rfl dX11_link_42 ?_
        refine lv_iload_n hx hb dX11_link_45 rfl (lv_at hl 1 rfl) ?_
        refine va_iald hx hb hK hP 1 1 rfl rfl (iv_in b16 (by decide) (by decide)) dX11_link_46 ?_
        refine iv_top (a := 0) (b := 11) (hq_to _) (fun z26 b27 => ?_)
        refine lv_goto (tgt := 55) hx hb dX11_link_47 (by decide) ?_
        have hP9 := hP.sub (ws' := [(m0, .inr (11, oX11 ra (upd x0 0 0))), (ra 2, .inl (kI, 8, .inl q_told)), (ra 8, .inl (kI, 40, .inl q_from)), (ra 9, .inl (kI, 40, .inl q_to))]) [2, 3, 0, 1] rfl
        have hD9 := hD.sub (ws' := [(m0, .inr (11, oX11 ra (upd x0 0 0))), (ra 2, .inl (kI, 8, .inl q_told)), (ra 8, .inl (kI, 40, .inl q_from)), (ra 9, .inl (kI, 40, .inl q_to))]) [2, 3, 0, 1] (by decide) rfl
        exact W.iret (v := z26) hx hb hr (fun t ht hW => ⟨⟨z26, (), rfl, b27, upd x0 0 0, (fI_u hX (k := 0) ((iv_w (iv_k (by decide) (by decide) : iv 0 0 0) (by decide) (by decide)))), by rw [ht]; exact hP9, hD9⟩, hS.F ht⟩) hS.2.2 dX11_link_55
      · have b28 : iv 0 0 p1 := iv_eqL c24 (iv_k (by decide) (by decide) : iv 0 0 0)
        refine lv_aload_n hx hb dX11_link_32 rfl (lv_at hl 0 rfl) ?_
        refine va_get (D := (dC, dI)) (ci := 11) (v := .ref (ra 8)) (C := RX11) (T := TX11) (N := 61) hx hb hts hin11 hown hK hP 2 rfl rfl 9 (by decide) hw_2 (fun _ h9 => h9) rfl dX11_link_33 ?_
        refine lv_iload_n hx hb dX11_link_36 rfl (lv_at hl 1 rfl) ?_
        refine va_iald hx hb hK hP 0 1 rfl rfl (iv_in b16 (by decide) (by decide)) dX11_link_37 ?_
        refine iv_top (a := 0) (b := 11) (hq_from _) (fun z29 b30 => ?_)
        refine lv_goto (tgt := 55) hx hb dX11_link_38 (by decide) ?_
        have hP9 := hP.sub (ws' := [(m0, .inr (11, oX11 ra (upd x0 0 0))), (ra 2, .inl (kI, 8, .inl q_told)), (ra 8, .inl (kI, 40, .inl q_from)), (ra 9, .inl (kI, 40, .inl q_to))]) [2, 3, 0, 1] rfl
        have hD9 := hD.sub (ws' := [(m0, .inr (11, oX11 ra (upd x0 0 0))), (ra 2, .inl (kI, 8, .inl q_told)), (ra 8, .inl (kI, 40, .inl q_from)), (ra 9, .inl (kI, 40, .inl q_to))]) [2, 3, 0, 1] (by decide) rfl
        exact W.iret (v := z29) hx hb hr (fun t ht hW => ⟨⟨z29, (), rfl, b30, upd x0 0 0, (fI_u hX (k := 0) ((iv_w (iv_k (by decide) (by decide) : iv 0 0 0) (by decide) (by decide)))), by rw [ht]; exact hP9, hD9⟩, hS.F ht⟩) hS.2.2 dX11_link_55
def rm_s11_seen : Room := { frames := 2, cells := 0, slots := 0, locals := 45 }
set_option maxHeartbeats 4000000 in
set_option maxRecDepth 100000 in
theorem s11_seen (l : Launch) (dC : Nat → ClassId) (dI : Nat → Nat → Nat) (kB kI kJ kZ kC kS : ClassId) (sz : Nat) (m0 : Nat) (ra : Nat → Nat) (x0 : Nat → Int32) (q_told : Nat → Int32) (q_now : Nat → Int32) (p0 : Int32) (p1 : Int32) (p2 : Int32) (hX : fI lX11 hX11 x0) (hq_told : fI lTold hTold q_told) (hq_now : fI lNow hNow q_now) : Met l yX11_seen wsX11_seen rm_s11_seen (va_Pc [.ref m0, .int p0, .int p1, .int p2] (fun U => U.heap.size = sz ∧ va_P (dC, dI) vwCl [(m0, .inr (11, oX11 ra x0)), (ra 2, .inl (kI, 8, .inl q_told)), (ra 11, .inl (kI, 1019, .inl q_now))] U.heap ∧ kE dC dI kB kI kJ kZ kC kS U ∧ va_D (fun _ => True) [(m0, .inr (11, oX11 ra x0)), (ra 2, .inl (kI, 8, .inl q_told)), (ra 11, .inl (kI, 1019, .inl q_now))])) (va_Qi (fun (r : Int32) (_ : Unit) => iv (-1) 20 r) (fun _ t => ∃ (x0' : Nat → Int32), fI lX11 hX11 x0' ∧ va_P (dC, dI) vwCl [(m0, .inr (11, oX11 ra x0')), (ra 2, .inl (kI, 8, .inl q_told)), (ra 11, .inl (kI, 1019, .inl q_now))] t.heap ∧ va_D (va_A [(m0, .inr (11, oX11 ra x0)), (ra 2, .inl (kI, 8, .inl q_told)), (ra 11, .inl (kI, 1019, .inl q_now))] sz) [(m0, .inr (11, oX11 ra x0')), (ra 2, .inl (kI, 8, .inl q_told)), (ra 11, .inl (kI, 1019, .inl q_now))]) (va_A [(m0, .inr (11, oX11 ra x0)), (ra 2, .inl (kI, 8, .inl q_told)), (ra 11, .inl (kI, 1019, .inl q_now))] sz)) 0 0 (va_A [(m0, .inr (11, oX11 ra x0)), (ra 2, .inl (kI, 8, .inl q_told)), (ra 11, .inl (kI, 1019, .inl q_now))] sz) := by
  refine Met.ofW (cc := cX11_seen) (maxL := 4) (ret := (some .int)) (by decide) rfl ?_
  intro p e s m args0 below meth c s₁ B hml hv
  obtain ⟨hargs, hsz, hP, hE, hD0⟩ := hv
  have hx := B.exec
  have hb := B.bytes
  have hr := B.returns
  have hts := atoms_spec (ws := wsX11_seen) B.pre
  have hown : s.vm.findClass RX11 = some m.cls := findClass_of_methodNamed B.named
  have hlocks := B.notSynchronized
  have hK := hE.1
  have hin11 : ∀ w ∈ wsX110, w ∈ wsX11_seen := fun _ h9 => List.mem_cons_of_mem _ (List.mem_append_right _ h9)
  have hw_0 := hts (.fieldLink RX11 142 "PathProberModel" "code" "I") (List.mem_of_getElem? (i := 1) (by decide +kernel))
  subst hsz
  have hD := hD0.self (sz := s.heap.size)
  generalize hAe : va_A [(m0, .inr (11, oX11 ra x0)), (ra 2, .inl (kI, 8, .inl q_told)), (ra 11, .inl (kI, 1019, .inl q_now))] s.heap.size = A at hD ⊢
  have hA : ∀ q : Nat, s.heap.size ≤ q → A q := fun q h => by rw [← hAe]; exact Or.inr h
  have hS : va_S A s.heap s.heap [] := va_S.rf
  have hP : va_P (dC, dI) vwCl [(m0, .inr (11, oX11 ra x0)), (ra 2, .inl (kI, 8, .inl q_told)), (ra 11, .inl (kI, 1019, .inl q_now))] s.heap := hP
  have hl := lv_entry ([.ref m0, .int p0, .int p1, .int p2]) (n := 4) (Nat.le_of_ble_eq_true rfl)
  have hla : entryFrame m args0 4 = entryFrame m ([.ref m0, .int p0, .int p1, .int p2] : List Value).toArray 4 := by rw [hargs]
  rw [hla, lg_entry_eq]
  generalize (lg_sl ([.ref m0, .int p0, .int p1, .int p2]) ++ List.replicate (4 - (lg_sl ([.ref m0, .int p0, .int p1, .int p2])).length) Slot.unset).toArray = ls at hl ⊢
  have hl : lv_has ls 4 [(0, .ref m0), (1, .int p0), (2, .int p1), (3, .int p2)] := hl
  have hJ37 : ∀ (y37_0 : Nat → Int32) (H : Heap) (locs : List Loc) (ls : Array Slot), fI lX11 hX11 y37_0 → iv 0 0 (y37_0 0) → va_P (dC, dI) vwCl [(m0, .inr (11, oX11 ra y37_0)), (ra 2, .inl (kI, 8, .inl q_told)), (ra 11, .inl (kI, 1019, .inl q_now))] H → va_D A [(m0, .inr (11, oX11 ra y37_0)), (ra 2, .inl (kI, 8, .inl q_told)), (ra 11, .inl (kI, 1019, .inl q_now))] → va_S A s.heap H locs → lv_has ls 4 [(0, .ref m0), (1, .int p0), (2, .int p1), (3, .int p2)] → W p l e (headSpec wsX11_seen rm_s11_seen).room s m args0 below meth c H locs (0) (0) (MQ below (va_Qi (fun (r : Int32) (_ : Unit) => iv (-1) 20 r) (fun _ t => ∃ (x0' : Nat → Int32), fI lX11 hX11 x0' ∧ va_P (dC, dI) vwCl [(m0, .inr (11, oX11 ra x0')), (ra 2, .inl (kI, 8, .inl q_told)), (ra 11, .inl (kI, 1019, .inl q_now))] t.heap ∧ va_D A [(m0, .inr (11, oX11 ra x0')), (ra 2, .inl (kI, 8, .inl q_told)), (ra 11, .inl (kI, 1019, .inl q_now))]) A) args0 s 0 0 A) (F0 m 37 ls []) := by
    intro y37_0 H locs ls hI37_0 h37_2 hP hD hS hl
    refine lv_aload_n hx hb dX11_seen_37 rfl (lv_at hl 0 rfl) ?_
    refine lv_iconst (v := 1) hx hb dX11_seen_38 (by decide) ?_
    have hPc := hP.sub (ws' := [(m0, .inr (11, oX11 ra y37_0))]) [0] rfl
    have hDc := hD.sub (ws' := [(m0, .inr (11, oX11 ra y37_0))]) [0] (by decide) rfl
    have hFc := va_free (wc := [(m0, .inr (11, oX11 ra y37_0))]) hD hS hA [0] rfl
    refine va_calli (va_runV (As := [.int 1]) (rest := []) ⟨hx, hb, hml, hown, hts⟩ (s11_fail l dC dI kB kI kJ kZ kC kS H.size m0 ra y37_0 1 (hI37_0)) (cwV 1 hts gX11_seen_X11_fail rfl rfl rfl (by decide +kernel) ⟨Nat.le_of_ble_eq_true rfl, Nat.le_of_ble_eq_true rfl⟩) ⟨fun a U g mk q => by obtain ⟨q0, q1, qP, qE, qD⟩ := q; exact ⟨q0, q1, qP, kE_call qE, qD⟩, va_recv hK hP (ci := 11) (q0 := 0) rfl rfl, fun U hU hW => ⟨rfl, by rw [hU], by rw [hU]; exact hPc, kE_warm hW hE, hDc.weaken (fun _ _ _ _ => trivial)⟩⟩ rfl rfl hl.1 rfl (lv_room (Nat.le_of_ble_eq_true rfl)) dX11_seen_39 ⟨Nat.le_of_ble_eq_true rfl, Nat.le_of_ble_eq_true rfl⟩) hS (fun q _ h => hFc q h) hFc (fun r1 u t H1 locs ht hvm w2 hB hz1 hk1 hS => ?_)
    obtain ⟨y3, hq4, hq5, hP1, hD1⟩ := hB
    rw [ht] at hP1
    try dsimp only at w2
    obtain ⟨hP, hD⟩ := va_join (wr := [(ra 2, .inl (kI, 8, .inl q_told)), (ra 11, .inl (kI, 1019, .inl q_now))]) (w1 := [(m0, .inr (11, oX11 ra y3))]) hP hD [0] [1, 2] rfl rfl (by decide) (by decide) hk1 hFc hP1 hD1
    generalize H1 = H at hP hS ⊢
    have hP : va_P (dC, dI) vwCl [(ra 2, .inl (kI, 8, .inl q_told)), (ra 11, .inl (kI, 1019, .inl q_now)), (m0, .inr (11, oX11 ra y3))] H := hP
    have hD : va_D A [(ra 2, .inl (kI, 8, .inl q_told)), (ra 11, .inl (kI, 1019, .inl q_now)), (m0, .inr (11, oX11 ra y3))] := hD
    refine W.widen (k := 0) (n := 0) (Nat.le_of_ble_eq_true rfl) (Nat.le_of_ble_eq_true rfl) ?_
    obtain rfl : r1 = 0 := iv_one w2 (by decide)
    have hP9 := hP.sub (ws' := [(m0, .inr (11, oX11 ra y3)), (ra 2, .inl (kI, 8, .inl q_told)), (ra 11, .inl (kI, 1019, .inl q_now))]) [2, 0, 1] rfl
    have hD9 := hD.sub (ws' := [(m0, .inr (11, oX11 ra y3)), (ra 2, .inl (kI, 8, .inl q_told)), (ra 11, .inl (kI, 1019, .inl q_now))]) [2, 0, 1] (by decide) rfl
    exact W.iret (v := 0) hx hb hr (fun t ht hW => ⟨⟨0, (), rfl, (iv_w (iv_k (by decide) (by decide) : iv 0 0 0) (by decide) (by decide)), y3, hq4, by rw [ht]; exact hP9, hD9⟩, hS.F ht⟩) hS.2.2 dX11_seen_42
  refine lv_aload_n hx hb dX11_seen_0 rfl (lv_at hl 0 rfl) ?_
  refine lv_iconst (v := 0) hx hb dX11_seen_1 (by decide) ?_
  refine va_put (D := (dC, dI)) (ci := 11) (v := .int 0) (ty := .int) (C := RX11) (T := TX11) (N := 61) hx hb hts hin11 tyX11 tyX11_ok nmX11 hown hK hP hD hS 0 rfl rfl 2 (by decide) hw_0 (fun _ h9 => h9) rfl (by decide +kernel) rfl rfl (Nat.le_of_ble_eq_true rfl) dX11_seen_2 (fun H locs hP hD hS => ?_)
  have hP : va_P (dC, dI) vwCl [(m0, .inr (11, oX11 ra (upd x0 0 0))), (ra 2, .inl (kI, 8, .inl q_told)), (ra 11, .inl (kI, 1019, .inl q_now))] H := hP
  have hD : va_D A [(m0, .inr (11, oX11 ra (upd x0 0 0))), (ra 2, .inl (kI, 8, .inl q_told)), (ra 11, .inl (kI, 1019, .inl q_now))] := hD
  refine lv_iload_n hx hb dX11_seen_5 rfl (lv_at hl 1 rfl) ?_
  have hPc := hP.sub (ws' := []) [] rfl
  have hDc := hD.sub (ws' := []) [] (by decide) rfl
  have hFc := va_free (wc := []) hD hS hA [] rfl
  refine va_calli (va_runS (As := [.int p0]) (rest := []) ⟨hx, hb, hml, hown, hts⟩ (s11_isPort l dC dI kB kI kJ kZ kC kS H.size p0) (va_cwS 1 hts gX11_seen_X11_isPort rfl rfl rfl (by decide +kernel) ⟨Nat.le_of_ble_eq_true rfl, Nat.le_of_ble_eq_true rfl⟩) ⟨fun a U g mk q => by obtain ⟨q0, q1, qP, qE, qD⟩ := q; exact ⟨q0, q1, qP, kE_call qE, qD⟩, fun U hU hW => ⟨rfl, by rw [hU], by rw [hU]; exact hPc, kE_warm hW hE, hDc.weaken (fun _ _ _ _ => trivial)⟩⟩ rfl rfl hl.1 rfl (lv_room (Nat.le_of_ble_eq_true rfl)) dX11_seen_6 ⟨Nat.le_of_ble_eq_true rfl, Nat.le_of_ble_eq_true rfl⟩) hS (fun q _ h => hFc q h) hFc (fun r6 u t H1 locs ht hvm w7 hB hz1 hk1 hS => ?_)
  obtain ⟨hP1, hD1⟩ := hB
  rw [ht] at hP1
  try dsimp only at w7
  obtain ⟨hP, hD⟩ := va_join (wr := [(m0, .inr (11, oX11 ra (upd x0 0 0))), (ra 2, .inl (kI, 8, .inl q_told)), (ra 11, .inl (kI, 1019, .inl q_now))]) (w1 := []) hP hD [] [0, 1, 2] rfl rfl (by decide) (by decide) hk1 hFc hP1 hD1
  generalize H1 = H at hP hS ⊢
  have hP : va_P (dC, dI) vwCl [(m0, .inr (11, oX11 ra (upd x0 0 0))), (ra 2, .inl (kI, 8, .inl q_told)), (ra 11, .inl (kI, 1019, .inl q_now))] H := hP
  have hD : va_D A [(m0, .inr (11, oX11 ra (upd x0 0 0))), (ra 2, .inl (kI, 8, .inl q_told)), (ra 11, .inl (kI, 1019, .inl q_now))] := hD
  refine W.widen (k := 0) (n := 0) (Nat.le_of_ble_eq_true rfl) (Nat.le_of_ble_eq_true rfl) ?_
  refine lv_if_eq (tgt := 37) hx hb dX11_seen_9 (by decide) (fun c8 => ?_) (fun c8 => ?_)
  · have b9 : iv 0 0 r6 := iv_eqL c8 (iv_k (by decide) (by decide) : iv 0 0 0)
    exact hJ37 (upd x0 0 0) _ _ _ ((fI_u hX (k := 0) ((iv_w (iv_k (by decide) (by decide) : iv 0 0 0) (by decide) (by decide))))) ((iv_k (by decide) (by decide) : iv 0 0 0)) (hP.sub [0, 1, 2] rfl) (hD.sub [0, 1, 2] (by decide) rfl) hS (lv_sub hl [0, 1, 2, 3] rfl)
  · have b10 : iv 1 1 r6 := iv_neLo c8 w7.1 (iv_k (by decide) (by decide) : iv 0 0 0) (by decide) (by decide)
    have b11 : iv 0 31 p0 := (w7.2).resolve_left (iv_ne b10 (iv_k (by decide) (by decide) : iv 0 0 0) (by decide))
    refine lv_aload_n hx hb dX11_seen_12 rfl (lv_at hl 0 rfl) ?_
    refine lv_iload_n hx hb dX11_seen_13 rfl (lv_at hl 2 rfl) ?_
    have hPc := hP.sub (ws' := [(m0, .inr (11, oX11 ra (upd x0 0 0))), (ra 2, .inl (kI, 8, .inl q_told))]) [0, 1] rfl
    have hDc := hD.sub (ws' := [(m0, .inr (11, oX11 ra (upd x0 0 0))), (ra 2, .inl (kI, 8, .inl q_told))]) [0, 1] (by decide) rfl
    have hFc := va_free (wc := [(m0, .inr (11, oX11 ra (upd x0 0 0))), (ra 2, .inl (kI, 8, .inl q_told))]) hD hS hA [0, 1] rfl
    refine va_calli (va_runV (As := [.int p1]) (rest := []) ⟨hx, hb, hml, hown, hts⟩ (s11_isGoal l dC dI kB kI kJ kZ kC kS H.size m0 ra (upd x0 0 0) q_told p1 ((fI_u hX (k := 0) ((iv_w (iv_k (by decide) (by decide) : iv 0 0 0) (by decide) (by decide))))) (hq_told)) (cwV 1 hts gX11_seen_X11_isGoal rfl rfl rfl (by decide +kernel) ⟨Nat.le_of_ble_eq_true rfl, Nat.le_of_ble_eq_true rfl⟩) ⟨fun a U g mk q => by obtain ⟨q0, q1, qP, qE, qD⟩ := q; exact ⟨q0, q1, qP, kE_call qE, qD⟩, va_recv hK hP (ci := 11) (q0 := 0) rfl rfl, fun U hU hW => ⟨rfl, by rw [hU], by rw [hU]; exact hPc, kE_warm hW hE, hDc.weaken (fun _ _ _ _ => trivial)⟩⟩ rfl rfl hl.1 rfl (lv_room (Nat.le_of_ble_eq_true rfl)) dX11_seen_14 ⟨Nat.le_of_ble_eq_true rfl, Nat.le_of_ble_eq_true rfl⟩) hS (fun q _ h => hFc q h) hFc (fun r12 u t H1 locs ht hvm w13 hB hz1 hk1 hS => ?_)
    obtain ⟨hP1, hD1⟩ := hB
    rw [ht] at hP1
    try dsimp only at w13
    obtain ⟨hP, hD⟩ := va_join (wr := [(ra 11, .inl (kI, 1019, .inl q_now))]) (w1 := [(m0, .inr (11, oX11 ra (upd x0 0 0))), (ra 2, .inl (kI, 8, .inl q_told))]) hP hD [0, 1] [2] rfl rfl (by decide) (by decide) hk1 hFc hP1 hD1
    generalize H1 = H at hP hS ⊢
    have hP : va_P (dC, dI) vwCl [(ra 11, .inl (kI, 1019, .inl q_now)), (m0, .inr (11, oX11 ra (upd x0 0 0))), (ra 2, .inl (kI, 8, .inl q_told))] H := hP
    have hD : va_D A [(ra 11, .inl (kI, 1019, .inl q_now)), (m0, .inr (11, oX11 ra (upd x0 0 0))), (ra 2, .inl (kI, 8, .inl q_told))] := hD
    refine W.widen (k := 0) (n := 0) (Nat.le_of_ble_eq_true rfl) (Nat.le_of_ble_eq_true rfl) ?_
    refine lv_if_eq (tgt := 37) hx hb dX11_seen_17 (by decide) (fun c14 => ?_) (fun c14 => ?_)
    · have b15 : iv 0 0 r12 := iv_eqL c14 (iv_k (by decide) (by decide) : iv 0 0 0)
      exact hJ37 (upd x0 0 0) _ _ _ ((fI_u hX (k := 0) ((iv_w (iv_k (by decide) (by decide) : iv 0 0 0) (by decide) (by decide))))) ((iv_k (by decide) (by decide) : iv 0 0 0)) (hP.sub [1, 2, 0] rfl) (hD.sub [1, 2, 0] (by decide) rfl) hS (lv_sub hl [0, 1, 2, 3] rfl)
    · have b16 : iv 1 1 r12 := iv_neLo c14 w13.1 (iv_k (by decide) (by decide) : iv 0 0 0) (by decide) (by decide)
      have b17 : iv 0 2 p1 := (w13.2).resolve_left (iv_ne b16 (iv_k (by decide) (by decide) : iv 0 0 0) (by decide))
      refine lv_iload_n hx hb dX11_seen_20 rfl (lv_at hl 3 rfl) ?_
      have hPc := hP.sub (ws' := []) [] rfl
      have hDc := hD.sub (ws' := []) [] (by decide) rfl
      have hFc := va_free (wc := []) hD hS hA [] rfl
      refine va_calli (va_runS (As := [.int p2]) (rest := []) ⟨hx, hb, hml, hown, hts⟩ (s11_isHop l dC dI kB kI kJ kZ kC kS H.size p2) (va_cwS 1 hts gX11_seen_X11_isHop rfl rfl rfl (by decide +kernel) ⟨Nat.le_of_ble_eq_true rfl, Nat.le_of_ble_eq_true rfl⟩) ⟨fun a U g mk q => by obtain ⟨q0, q1, qP, qE, qD⟩ := q; exact ⟨q0, q1, qP, kE_call qE, qD⟩, fun U hU hW => ⟨rfl, by rw [hU], by rw [hU]; exact hPc, kE_warm hW hE, hDc.weaken (fun _ _ _ _ => trivial)⟩⟩ rfl rfl hl.1 rfl (lv_room (Nat.le_of_ble_eq_true rfl)) dX11_seen_21 ⟨Nat.le_of_ble_eq_true rfl, Nat.le_of_ble_eq_true rfl⟩) hS (fun q _ h => hFc q h) hFc (fun r18 u t H1 locs ht hvm w19 hB hz1 hk1 hS => ?_)
      obtain ⟨hP1, hD1⟩ := hB
      rw [ht] at hP1
      try dsimp only at w19
      obtain ⟨hP, hD⟩ := va_join (wr := [(ra 11, .inl (kI, 1019, .inl q_now)), (m0, .inr (11, oX11 ra (upd x0 0 0))), (ra 2, .inl (kI, 8, .inl q_told))]) (w1 := []) hP hD [] [0, 1, 2] rfl rfl (by decide) (by decide) hk1 hFc hP1 hD1
      generalize H1 = H at hP hS ⊢
      have hP : va_P (dC, dI) vwCl [(ra 11, .inl (kI, 1019, .inl q_now)), (m0, .inr (11, oX11 ra (upd x0 0 0))), (ra 2, .inl (kI, 8, .inl q_told))] H := hP
      have hD : va_D A [(ra 11, .inl (kI, 1019, .inl q_now)), (m0, .inr (11, oX11 ra (upd x0 0 0))), (ra 2, .inl (kI, 8, .inl q_told))] := hD
      refine W.widen (k := 0) (n := 0) (Nat.le_of_ble_eq_true rfl) (Nat.le_of_ble_eq_true rfl) ?_
      refine lv_if_eq (tgt := 37) hx hb dX11_seen_24 (by decide) (fun c20 => ?_) (fun c20 => ?_)
      · have b21 : iv 0 0 r18 := iv_eqL c20 (iv_k (by decide) (by decide) : iv 0 0 0)
        exact hJ37 (upd x0 0 0) _ _ _ ((fI_u hX (k := 0) ((iv_w (iv_k (by decide) (by decide) : iv 0 0 0) (by decide) (by decide))))) ((iv_k (by decide) (by decide) : iv 0 0 0)) (hP.sub [1, 2, 0] rfl) (hD.sub [1, 2, 0] (by decide) rfl) hS (lv_sub hl [0, 1, 2, 3] rfl)
      · have b22 : iv 1 1 r18 := iv_neLo c20 w19.1 (iv_k (by decide) (by decide) : iv 0 0 0) (by decide) (by decide)
        have b23 : iv 1 10 p2 := (w19.2).resolve_left (iv_ne b22 (iv_k (by decide) (by decide) : iv 0 0 0) (by decide))
        refine lv_aload_n hx hb dX11_seen_27 rfl (lv_at hl 0 rfl) ?_
        refine lv_iload_n hx hb dX11_seen_28 rfl (lv_at hl 1 rfl) ?_
        refine lv_iload_n hx hb dX11_seen_29 rfl (lv_at hl 2 rfl) ?_
        refine lv_iload_n hx hb dX11_seen_30 rfl (lv_at hl 3 rfl) ?_
        have hPc := hP.sub (ws' := [(m0, .inr (11, oX11 ra (upd x0 0 0))), (ra 11, .inl (kI, 1019, .inl q_now))]) [1, 0] rfl
        have hDc := hD.sub (ws' := [(m0, .inr (11, oX11 ra (upd x0 0 0))), (ra 11, .inl (kI, 1019, .inl q_now))]) [1, 0] (by decide) rfl
        have hFc := va_free (wc := [(m0, .inr (11, oX11 ra (upd x0 0 0))), (ra 11, .inl (kI, 1019, .inl q_now))]) hD hS hA [1, 0] rfl
        refine va_calli (va_runV (As := [.int p0, .int p1, .int p2]) (rest := []) ⟨hx, hb, hml, hown, hts⟩ (s11_seenBy l dC dI kB kI kJ kZ kC kS H.size m0 ra (upd x0 0 0) q_now p0 p1 p2 ((fI_u hX (k := 0) ((iv_w (iv_k (by decide) (by decide) : iv 0 0 0) (by decide) (by decide))))) (hq_now) (b11) (b17) (b23)) (cwV 3 hts gX11_seen_X11_seenBy rfl rfl rfl (by decide +kernel) ⟨Nat.le_of_ble_eq_true rfl, Nat.le_of_ble_eq_true rfl⟩) ⟨fun a U g mk q => by obtain ⟨q0, q1, qP, qE, qD⟩ := q; exact ⟨q0, q1, qP, kE_call qE, qD⟩, va_recv hK hP (ci := 11) (q0 := 1) rfl rfl, fun U hU hW => ⟨rfl, by rw [hU], by rw [hU]; exact hPc, kE_warm hW hE, hDc.weaken (fun _ _ _ _ => trivial)⟩⟩ rfl rfl hl.1 rfl (lv_room (Nat.le_of_ble_eq_true rfl)) dX11_seen_31 ⟨Nat.le_of_ble_eq_true rfl, Nat.le_of_ble_eq_true rfl⟩) hS (fun q _ h => hFc q h) hFc (fun r24 u t H1 locs ht hvm w25 hB hz1 hk1 hS => ?_)
        obtain ⟨hP1, hD1⟩ := hB
        rw [ht] at hP1
        try dsimp only at w25
        obtain ⟨hP, hD⟩ := va_join (wr := [(ra 2, .inl (kI, 8, .inl q_told))]) (w1 := [(m0, .inr (11, oX11 ra (upd x0 0 0))), (ra 11, .inl (kI, 1019, .inl q_now))]) hP hD [1, 0] [2] rfl rfl (by decide) (by decide) hk1 hFc hP1 hD1
        generalize H1 = H at hP hS ⊢
        have hP : va_P (dC, dI) vwCl [(ra 2, .inl (kI, 8, .inl q_told)), (m0, .inr (11, oX11 ra (upd x0 0 0))), (ra 11, .inl (kI, 1019, .inl q_now))] H := hP
        have hD : va_D A [(ra 2, .inl (kI, 8, .inl q_told)), (m0, .inr (11, oX11 ra (upd x0 0 0))), (ra 11, .inl (kI, 1019, .inl q_now))] := hD
        refine W.widen (k := 0) (n := 0) (Nat.le_of_ble_eq_true rfl) (Nat.le_of_ble_eq_true rfl) ?_
        obtain ⟨w25, b26⟩ := w25
        subst w25
        refine lv_goto (tgt := 42) hx hb dX11_seen_34 (by decide) ?_
        have hP9 := hP.sub (ws' := [(m0, .inr (11, oX11 ra (upd x0 0 0))), (ra 2, .inl (kI, 8, .inl q_told)), (ra 11, .inl (kI, 1019, .inl q_now))]) [1, 0, 2] rfl
        have hD9 := hD.sub (ws' := [(m0, .inr (11, oX11 ra (upd x0 0 0))), (ra 2, .inl (kI, 8, .inl q_told)), (ra 11, .inl (kI, 1019, .inl q_now))]) [1, 0, 2] (by decide) rfl
        exact W.iret (v := q_now ((59 + (10 * ((3 * p0) + p1)) + p2) - 1).toNatClampNeg - 1) hx hb hr (fun t ht hW => ⟨⟨q_now ((59 + (10 * ((3 * p0) + p1)) + p2) - 1).toNatClampNeg - 1, (), rfl, b26, upd x0 0 0, (fI_u hX (k := 0) ((iv_w (iv_k (by decide) (by decide) : iv 0 0 0) (by decide) (by decide)))), by rw [ht]; exact hP9, hD9⟩, hS.F ht⟩) hS.2.2 dX11_seen_42
def rm_s11_hop : Room := { frames := 5, cells := 0, slots := 0, locals := 120 }
set_option maxHeartbeats 4000000 in
set_option maxRecDepth 100000 in
theorem s11_hop (l : Launch) (dC : Nat → ClassId) (dI : Nat → Nat → Nat) (kB kI kJ kZ kC kS : ClassId) (sz : Nat) (m0 : Nat) (ra : Nat → Nat) (x0 : Nat → Int32) (q_told : Nat → Int32) (q_from : Nat → Int32) (q_to : Nat → Int32) (q_goal : Nat → Int32) (q_now : Nat → Int32) (q_reach : Nat → Int32) (q_isAt : Nat → Int32) (p0 : Int32) (p1 : Int32) (p2 : Int32) (hX : fI lX11 hX11 x0) (hq_told : fI lTold hTold q_told) (hq_from : fI (fun _ => 0) (fun _ => 11) q_from) (hq_to : fI (fun _ => 0) (fun _ => 11) q_to) (hq_goal : fI (fun _ => 0) (fun _ => 11) q_goal) (hq_now : fI lNow hNow q_now) : Met l yX11_hop wsX11_hop rm_s11_hop (va_Pc [.ref m0, .int p0, .int p1, .int p2] (fun U => U.heap.size = sz ∧ va_P (dC, dI) vwCl [(m0, .inr (11, oX11 ra x0)), (ra 2, .inl (kI, 8, .inl q_told)), (ra 8, .inl (kI, 40, .inl q_from)), (ra 9, .inl (kI, 40, .inl q_to)), (ra 10, .inl (kI, 6, .inl q_goal)), (ra 11, .inl (kI, 1019, .inl q_now)), (ra 14, .inl (kI, 12, .inl q_reach)), (ra 17, .inl (kZ, 168, .inl q_isAt))] U.heap ∧ kE dC dI kB kI kJ kZ kC kS U ∧ va_D (fun _ => True) [(m0, .inr (11, oX11 ra x0)), (ra 2, .inl (kI, 8, .inl q_told)), (ra 8, .inl (kI, 40, .inl q_from)), (ra 9, .inl (kI, 40, .inl q_to)), (ra 10, .inl (kI, 6, .inl q_goal)), (ra 11, .inl (kI, 1019, .inl q_now)), (ra 14, .inl (kI, 12, .inl q_reach)), (ra 17, .inl (kZ, 168, .inl q_isAt))])) (va_Qi (fun (r : Int32) (_ : Unit) => True) (fun _ t => ∃ (x0' : Nat → Int32) (q_isAt' : Nat → Int32), fI lX11 hX11 x0' ∧ va_P (dC, dI) vwCl [(m0, .inr (11, oX11 ra x0')), (ra 2, .inl (kI, 8, .inl q_told)), (ra 8, .inl (kI, 40, .inl q_from)), (ra 9, .inl (kI, 40, .inl q_to)), (ra 10, .inl (kI, 6, .inl q_goal)), (ra 11, .inl (kI, 1019, .inl q_now)), (ra 14, .inl (kI, 12, .inl q_reach)), (ra 17, .inl (kZ, 168, .inl q_isAt'))] t.heap ∧ va_D (va_A [(m0, .inr (11, oX11 ra x0)), (ra 2, .inl (kI, 8, .inl q_told)), (ra 8, .inl (kI, 40, .inl q_from)), (ra 9, .inl (kI, 40, .inl q_to)), (ra 10, .inl (kI, 6, .inl q_goal)), (ra 11, .inl (kI, 1019, .inl q_now)), (ra 14, .inl (kI, 12, .inl q_reach)), (ra 17, .inl (kZ, 168, .inl q_isAt))] sz) [(m0, .inr (11, oX11 ra x0')), (ra 2, .inl (kI, 8, .inl q_told)), (ra 8, .inl (kI, 40, .inl q_from)), (ra 9, .inl (kI, 40, .inl q_to)), (ra 10, .inl (kI, 6, .inl q_goal)), (ra 11, .inl (kI, 1019, .inl q_now)), (ra 14, .inl (kI, 12, .inl q_reach)), (ra 17, .inl (kZ, 168, .inl q_isAt'))]) (va_A [(m0, .inr (11, oX11 ra x0)), (ra 2, .inl (kI, 8, .inl q_told)), (ra 8, .inl (kI, 40, .inl q_from)), (ra 9, .inl (kI, 40, .inl q_to)), (ra 10, .inl (kI, 6, .inl q_goal)), (ra 11, .inl (kI, 1019, .inl q_now)), (ra 14, .inl (kI, 12, .inl q_reach)), (ra 17, .inl (kZ, 168, .inl q_isAt))] sz)) 0 0 (va_A [(m0, .inr (11, oX11 ra x0)), (ra 2, .inl (kI, 8, .inl q_told)), (ra 8, .inl (kI, 40, .inl q_from)), (ra 9, .inl (kI, 40, .inl q_to)), (ra 10, .inl (kI, 6, .inl q_goal)), (ra 11, .inl (kI, 1019, .inl q_now)), (ra 14, .inl (kI, 12, .inl q_reach)), (ra 17, .inl (kZ, 168, .inl q_isAt))] sz) := by
  refine Met.ofW (cc := cX11_hop) (maxL := 4) (ret := (some .int)) (by decide) rfl ?_
  intro p e s m args0 below meth c s₁ B hml hv
  obtain ⟨hargs, hsz, hP, hE, hD0⟩ := hv
  have hx := B.exec
  have hb := B.bytes
  have hr := B.returns
  have hts := atoms_spec (ws := wsX11_hop) B.pre
  have hown : s.vm.findClass RX11 = some m.cls := findClass_of_methodNamed B.named
  have hlocks := B.notSynchronized
  have hK := hE.1
  have hin11 : ∀ w ∈ wsX110, w ∈ wsX11_hop := fun _ h9 => List.mem_cons_of_mem _ (List.mem_append_right _ h9)
  have hw_0 := hts (.fieldLink RX11 142 "PathProberModel" "code" "I") (List.mem_of_getElem? (i := 1) (by decide +kernel))
  have hw_1 := hts (.fieldLink RX11 60 "PathProberModel" "now" "[I") (List.mem_of_getElem? (i := 2) (by decide +kernel))
  subst hsz
  have hD := hD0.self (sz := s.heap.size)
  generalize hAe : va_A [(m0, .inr (11, oX11 ra x0)), (ra 2, .inl (kI, 8, .inl q_told)), (ra 8, .inl (kI, 40, .inl q_from)), (ra 9, .inl (kI, 40, .inl q_to)), (ra 10, .inl (kI, 6, .inl q_goal)), (ra 11, .inl (kI, 1019, .inl q_now)), (ra 14, .inl (kI, 12, .inl q_reach)), (ra 17, .inl (kZ, 168, .inl q_isAt))] s.heap.size = A at hD ⊢
  have hA : ∀ q : Nat, s.heap.size ≤ q → A q := fun q h => by rw [← hAe]; exact Or.inr h
  have hS : va_S A s.heap s.heap [] := va_S.rf
  have hP : va_P (dC, dI) vwCl [(m0, .inr (11, oX11 ra x0)), (ra 2, .inl (kI, 8, .inl q_told)), (ra 8, .inl (kI, 40, .inl q_from)), (ra 9, .inl (kI, 40, .inl q_to)), (ra 10, .inl (kI, 6, .inl q_goal)), (ra 11, .inl (kI, 1019, .inl q_now)), (ra 14, .inl (kI, 12, .inl q_reach)), (ra 17, .inl (kZ, 168, .inl q_isAt))] s.heap := hP
  have hl := lv_entry ([.ref m0, .int p0, .int p1, .int p2]) (n := 4) (Nat.le_of_ble_eq_true rfl)
  have hla : entryFrame m args0 4 = entryFrame m ([.ref m0, .int p0, .int p1, .int p2] : List Value).toArray 4 := by rw [hargs]
  rw [hla, lg_entry_eq]
  generalize (lg_sl ([.ref m0, .int p0, .int p1, .int p2]) ++ List.replicate (4 - (lg_sl ([.ref m0, .int p0, .int p1, .int p2])).length) Slot.unset).toArray = ls at hl ⊢
  have hl : lv_has ls 4 [(0, .ref m0), (1, .int p0), (2, .int p1), (3, .int p2)] := hl
  have hJ20 : ∀ (y20_0 : Nat → Int32) (H : Heap) (locs : List Loc) (ls : Array Slot), fI lX11 hX11 y20_0 → iv 0 0 (y20_0 0) → va_P (dC, dI) vwCl [(m0, .inr (11, oX11 ra y20_0)), (ra 2, .inl (kI, 8, .inl q_told)), (ra 8, .inl (kI, 40, .inl q_from)), (ra 9, .inl (kI, 40, .inl q_to)), (ra 10, .inl (kI, 6, .inl q_goal)), (ra 11, .inl (kI, 1019, .inl q_now)), (ra 14, .inl (kI, 12, .inl q_reach)), (ra 17, .inl (kZ, 168, .inl q_isAt))] H → va_D A [(m0, .inr (11, oX11 ra y20_0)), (ra 2, .inl (kI, 8, .inl q_told)), (ra 8, .inl (kI, 40, .inl q_from)), (ra 9, .inl (kI, 40, .inl q_to)), (ra 10, .inl (kI, 6, .inl q_goal)), (ra 11, .inl (kI, 1019, .inl q_now)), (ra 14, .inl (kI, 12, .inl q_reach)), (ra 17, .inl (kZ, 168, .inl q_isAt))] → va_S A s.heap H locs → lv_has ls 4 [(0, .ref m0), (1, .int p0), (2, .int p1), (3, .int p2)] → W p l e (headSpec wsX11_hop rm_s11_hop).room s m args0 below meth c H locs (0) (0) (MQ below (va_Qi (fun (r : Int32) (_ : Unit) => True) (fun _ t => ∃ (x0' : Nat → Int32) (q_isAt' : Nat → Int32), fI lX11 hX11 x0' ∧ va_P (dC, dI) vwCl [(m0, .inr (11, oX11 ra x0')), (ra 2, .inl (kI, 8, .inl q_told)), (ra 8, .inl (kI, 40, .inl q_from)), (ra 9, .inl (kI, 40, .inl q_to)), (ra 10, .inl (kI, 6, .inl q_goal)), (ra 11, .inl (kI, 1019, .inl q_now)), (ra 14, .inl (kI, 12, .inl q_reach)), (ra 17, .inl (kZ, 168, .inl q_isAt'))] t.heap ∧ va_D A [(m0, .inr (11, oX11 ra x0')), (ra 2, .inl (kI, 8, .inl q_told)), (ra 8, .inl (kI, 40, .inl q_from)), (ra 9, .inl (kI, 40, .inl q_to)), (ra 10, .inl (kI, 6, .inl q_goal)), (ra 11, .inl (kI, 1019, .inl q_now)), (ra 14, .inl (kI, 12, .inl q_reach)), (ra 17, .inl (kZ, 168, .inl q_isAt'))]) A) args0 s 0 0 A) (F0 m 20 ls []) := by
    intro y20_0 H locs ls hI20_0 h20_2 hP hD hS hl
    refine lv_aload_n hx hb dX11_hop_20 rfl (lv_at hl 0 rfl) ?_
    refine lv_iconst (v := 1) hx hb dX11_hop_21 (by decide) ?_
    have hPc := hP.sub (ws' := [(m0, .inr (11, oX11 ra y20_0))]) [0] rfl
    have hDc := hD.sub (ws' := [(m0, .inr (11, oX11 ra y20_0))]) [0] (by decide +kernel) rfl
    have hFc := va_free (wc := [(m0, .inr (11, oX11 ra y20_0))]) hD hS hA [0] rfl
    refine va_calli (va_runV (As := [.int 1]) (rest := []) ⟨hx, hb, hml, hown, hts⟩ (s11_fail l dC dI kB kI kJ kZ kC kS H.size m0 ra y20_0 1 (hI20_0)) (cwV 1 hts gX11_hop_X11_fail rfl rfl rfl (by decide +kernel) ⟨Nat.le_of_ble_eq_true rfl, Nat.le_of_ble_eq_true rfl⟩) ⟨fun a U g mk q => by obtain ⟨q0, q1, qP, qE, qD⟩ := q; exact ⟨q0, q1, qP, kE_call qE, qD⟩, va_recv hK hP (ci := 11) (q0 := 0) rfl rfl, fun U hU hW => ⟨rfl, by rw [hU], by rw [hU]; exact hPc, kE_warm hW hE, hDc.weaken (fun _ _ _ _ => trivial)⟩⟩ rfl rfl hl.1 rfl (lv_room (Nat.le_of_ble_eq_true rfl)) dX11_hop_22 ⟨Nat.le_of_ble_eq_true rfl, Nat.le_of_ble_eq_true rfl⟩) hS (fun q _ h => hFc q h) hFc (fun r1 u t H1 locs ht hvm w2 hB hz1 hk1 hS => ?_)
    obtain ⟨y3, hq4, hq5, hP1, hD1⟩ := hB
    rw [ht] at hP1
    try dsimp only at w2
    obtain ⟨hP, hD⟩ := va_join (wr := [(ra 2, .inl (kI, 8, .inl q_told)), (ra 8, .inl (kI, 40, .inl q_from)), (ra 9, .inl (kI, 40, .inl q_to)), (ra 10, .inl (kI, 6, .inl q_goal)), (ra 11, .inl (kI, 1019, .inl q_now)), (ra 14, .inl (kI, 12, .inl q_reach)), (ra 17, .inl (kZ, 168, .inl q_isAt))]) (w1 := [(m0, .inr (11, oX11 ra y3))]) hP hD [0] [1, 2, 3, 4, 5, 6, 7] rfl rfl (by decide +kernel) (by decide +kernel) hk1 hFc hP1 hD1
    generalize H1 = H at hP hS ⊢
    have hP : va_P (dC, dI) vwCl [(ra 2, .inl (kI, 8, .inl q_told)), (ra 8, .inl (kI, 40, .inl q_from)), (ra 9, .inl (kI, 40, .inl q_to)), (ra 10, .inl (kI, 6, .inl q_goal)), (ra 11, .inl (kI, 1019, .inl q_now)), (ra 14, .inl (kI, 12, .inl q_reach)), (ra 17, .inl (kZ, 168, .inl q_isAt)), (m0, .inr (11, oX11 ra y3))] H := hP
    have hD : va_D A [(ra 2, .inl (kI, 8, .inl q_told)), (ra 8, .inl (kI, 40, .inl q_from)), (ra 9, .inl (kI, 40, .inl q_to)), (ra 10, .inl (kI, 6, .inl q_goal)), (ra 11, .inl (kI, 1019, .inl q_now)), (ra 14, .inl (kI, 12, .inl q_reach)), (ra 17, .inl (kZ, 168, .inl q_isAt)), (m0, .inr (11, oX11 ra y3))] := hD
    refine W.widen (k := 0) (n := 0) (Nat.le_of_ble_eq_true rfl) (Nat.le_of_ble_eq_true rfl) ?_
    obtain rfl : r1 = 0 := iv_one w2 (by decide)
    have hP9 := hP.sub (ws' := [(m0, .inr (11, oX11 ra y3)), (ra 2, .inl (kI, 8, .inl q_told)), (ra 8, .inl (kI, 40, .inl q_from)), (ra 9, .inl (kI, 40, .inl q_to)), (ra 10, .inl (kI, 6, .inl q_goal)), (ra 11, .inl (kI, 1019, .inl q_now)), (ra 14, .inl (kI, 12, .inl q_reach)), (ra 17, .inl (kZ, 168, .inl q_isAt))]) [7, 0, 1, 2, 3, 4, 5, 6] rfl
    have hD9 := hD.sub (ws' := [(m0, .inr (11, oX11 ra y3)), (ra 2, .inl (kI, 8, .inl q_told)), (ra 8, .inl (kI, 40, .inl q_from)), (ra 9, .inl (kI, 40, .inl q_to)), (ra 10, .inl (kI, 6, .inl q_goal)), (ra 11, .inl (kI, 1019, .inl q_now)), (ra 14, .inl (kI, 12, .inl q_reach)), (ra 17, .inl (kZ, 168, .inl q_isAt))]) [7, 0, 1, 2, 3, 4, 5, 6] (by decide +kernel) rfl
    exact W.iret (v := 0) hx hb hr (fun t ht hW => ⟨⟨0, (), rfl, trivial, y3, q_isAt, hq4, by rw [ht]; exact hP9, hD9⟩, hS.F ht⟩) hS.2.2 dX11_hop_25
  refine lv_aload_n hx hb dX11_hop_0 rfl (lv_at hl 0 rfl) ?_
  refine lv_iconst (v := 0) hx hb dX11_hop_1 (by decide) ?_
  refine va_put (D := (dC, dI)) (ci := 11) (v := .int 0) (ty := .int) (C := RX11) (T := TX11) (N := 61) hx hb hts hin11 tyX11 tyX11_ok nmX11 hown hK hP hD hS 0 rfl rfl 2 (by decide) hw_0 (fun _ h9 => h9) rfl (by decide +kernel) rfl rfl (Nat.le_of_ble_eq_true rfl) dX11_hop_2 (fun H locs hP hD hS => ?_)
  have hP : va_P (dC, dI) vwCl [(m0, .inr (11, oX11 ra (upd x0 0 0))), (ra 2, .inl (kI, 8, .inl q_told)), (ra 8, .inl (kI, 40, .inl q_from)), (ra 9, .inl (kI, 40, .inl q_to)), (ra 10, .inl (kI, 6, .inl q_goal)), (ra 11, .inl (kI, 1019, .inl q_now)), (ra 14, .inl (kI, 12, .inl q_reach)), (ra 17, .inl (kZ, 168, .inl q_isAt))] H := hP
  have hD : va_D A [(m0, .inr (11, oX11 ra (upd x0 0 0))), (ra 2, .inl (kI, 8, .inl q_told)), (ra 8, .inl (kI, 40, .inl q_from)), (ra 9, .inl (kI, 40, .inl q_to)), (ra 10, .inl (kI, 6, .inl q_goal)), (ra 11, .inl (kI, 1019, .inl q_now)), (ra 14, .inl (kI, 12, .inl q_reach)), (ra 17, .inl (kZ, 168, .inl q_isAt))] := hD
  refine lv_aload_n hx hb dX11_hop_5 rfl (lv_at hl 0 rfl) ?_
  refine lv_iload_n hx hb dX11_hop_6 rfl (lv_at hl 1 rfl) ?_
  have hPc := hP.sub (ws' := [(m0, .inr (11, oX11 ra (upd x0 0 0))), (ra 2, .inl (kI, 8, .inl q_told))]) [0, 1] rfl
  have hDc := hD.sub (ws' := [(m0, .inr (11, oX11 ra (upd x0 0 0))), (ra 2, .inl (kI, 8, .inl q_told))]) [0, 1] (by decide +kernel) rfl
  have hFc := va_free (wc := [(m0, .inr (11, oX11 ra (upd x0 0 0))), (ra 2, .inl (kI, 8, .inl q_told))]) hD hS hA [0, 1] rfl
  refine va_calli (va_runV (As := [.int p0]) (rest := []) ⟨hx, hb, hml, hown, hts⟩ (s11_isGoal l dC dI kB kI kJ kZ kC kS H.size m0 ra (upd x0 0 0) q_told p0 ((fI_u hX (k := 0) ((iv_w (iv_k (by decide) (by decide) : iv 0 0 0) (by decide) (by decide))))) (hq_told)) (cwV 1 hts gX11_hop_X11_isGoal rfl rfl rfl (by decide +kernel) ⟨Nat.le_of_ble_eq_true rfl, Nat.le_of_ble_eq_true rfl⟩) ⟨fun a U g mk q => by obtain ⟨q0, q1, qP, qE, qD⟩ := q; exact ⟨q0, q1, qP, kE_call qE, qD⟩, va_recv hK hP (ci := 11) (q0 := 0) rfl rfl, fun U hU hW => ⟨rfl, by rw [hU], by rw [hU]; exact hPc, kE_warm hW hE, hDc.weaken (fun _ _ _ _ => trivial)⟩⟩ rfl rfl hl.1 rfl (lv_room (Nat.le_of_ble_eq_true rfl)) dX11_hop_7 ⟨Nat.le_of_ble_eq_true rfl, Nat.le_of_ble_eq_true rfl⟩) hS (fun q _ h => hFc q h) hFc (fun r6 u t H1 locs ht hvm w7 hB hz1 hk1 hS => ?_)
  obtain ⟨hP1, hD1⟩ := hB
  rw [ht] at hP1
  try dsimp only at w7
  obtain ⟨hP, hD⟩ := va_join (wr := [(ra 8, .inl (kI, 40, .inl q_from)), (ra 9, .inl (kI, 40, .inl q_to)), (ra 10, .inl (kI, 6, .inl q_goal)), (ra 11, .inl (kI, 1019, .inl q_now)), (ra 14, .inl (kI, 12, .inl q_reach)), (ra 17, .inl (kZ, 168, .inl q_isAt))]) (w1 := [(m0, .inr (11, oX11 ra (upd x0 0 0))), (ra 2, .inl (kI, 8, .inl q_told))]) hP hD [0, 1] [2, 3, 4, 5, 6, 7] rfl rfl (by decide +kernel) (by decide +kernel) hk1 hFc hP1 hD1
  generalize H1 = H at hP hS ⊢
  have hP : va_P (dC, dI) vwCl [(ra 8, .inl (kI, 40, .inl q_from)), (ra 9, .inl (kI, 40, .inl q_to)), (ra 10, .inl (kI, 6, .inl q_goal)), (ra 11, .inl (kI, 1019, .inl q_now)), (ra 14, .inl (kI, 12, .inl q_reach)), (ra 17, .inl (kZ, 168, .inl q_isAt)), (m0, .inr (11, oX11 ra (upd x0 0 0))), (ra 2, .inl (kI, 8, .inl q_told))] H := hP
  have hD : va_D A [(ra 8, .inl (kI, 40, .inl q_from)), (ra 9, .inl (kI, 40, .inl q_to)), (ra 10, .inl (kI, 6, .inl q_goal)), (ra 11, .inl (kI, 1019, .inl q_now)), (ra 14, .inl (kI, 12, .inl q_reach)), (ra 17, .inl (kZ, 168, .inl q_isAt)), (m0, .inr (11, oX11 ra (upd x0 0 0))), (ra 2, .inl (kI, 8, .inl q_told))] := hD
  refine W.widen (k := 0) (n := 0) (Nat.le_of_ble_eq_true rfl) (Nat.le_of_ble_eq_true rfl) ?_
  refine lv_if_eq (tgt := 20) hx hb dX11_hop_10 (by decide) (fun c8 => ?_) (fun c8 => ?_)
  · have b9 : iv 0 0 r6 := iv_eqL c8 (iv_k (by decide) (by decide) : iv 0 0 0)
    exact hJ20 (upd x0 0 0) _ _ _ ((fI_u hX (k := 0) ((iv_w (iv_k (by decide) (by decide) : iv 0 0 0) (by decide) (by decide))))) ((iv_k (by decide) (by decide) : iv 0 0 0)) (hP.sub [6, 7, 0, 1, 2, 3, 4, 5] rfl) (hD.sub [6, 7, 0, 1, 2, 3, 4, 5] (by decide +kernel) rfl) hS (lv_sub hl [0, 1, 2, 3] rfl)
  · have b10 : iv 1 1 r6 := iv_neLo c8 w7.1 (iv_k (by decide) (by decide) : iv 0 0 0) (by decide) (by decide)
    have b11 : iv 0 2 p0 := (w7.2).resolve_left (iv_ne b10 (iv_k (by decide) (by decide) : iv 0 0 0) (by decide))
    refine lv_iload_n hx hb dX11_hop_13 rfl (lv_at hl 2 rfl) ?_
    have hPc := hP.sub (ws' := []) [] rfl
    have hDc := hD.sub (ws' := []) [] (by decide +kernel) rfl
    have hFc := va_free (wc := []) hD hS hA [] rfl
    refine va_calli (va_runS (As := [.int p1]) (rest := []) ⟨hx, hb, hml, hown, hts⟩ (s11_isHop l dC dI kB kI kJ kZ kC kS H.size p1) (va_cwS 1 hts gX11_hop_X11_isHop rfl rfl rfl (by decide +kernel) ⟨Nat.le_of_ble_eq_true rfl, Nat.le_of_ble_eq_true rfl⟩) ⟨fun a U g mk q => by obtain ⟨q0, q1, qP, qE, qD⟩ := q; exact ⟨q0, q1, qP, kE_call qE, qD⟩, fun U hU hW => ⟨rfl, by rw [hU], by rw [hU]; exact hPc, kE_warm hW hE, hDc.weaken (fun _ _ _ _ => trivial)⟩⟩ rfl rfl hl.1 rfl (lv_room (Nat.le_of_ble_eq_true rfl)) dX11_hop_14 ⟨Nat.le_of_ble_eq_true rfl, Nat.le_of_ble_eq_true rfl⟩) hS (fun q _ h => hFc q h) hFc (fun r12 u t H1 locs ht hvm w13 hB hz1 hk1 hS => ?_)
    obtain ⟨hP1, hD1⟩ := hB
    rw [ht] at hP1
    try dsimp only at w13
    obtain ⟨hP, hD⟩ := va_join (wr := [(ra 8, .inl (kI, 40, .inl q_from)), (ra 9, .inl (kI, 40, .inl q_to)), (ra 10, .inl (kI, 6, .inl q_goal)), (ra 11, .inl (kI, 1019, .inl q_now)), (ra 14, .inl (kI, 12, .inl q_reach)), (ra 17, .inl (kZ, 168, .inl q_isAt)), (m0, .inr (11, oX11 ra (upd x0 0 0))), (ra 2, .inl (kI, 8, .inl q_told))]) (w1 := []) hP hD [] [0, 1, 2, 3, 4, 5, 6, 7] rfl rfl (by decide +kernel) (by decide +kernel) hk1 hFc hP1 hD1
    generalize H1 = H at hP hS ⊢
    have hP : va_P (dC, dI) vwCl [(ra 8, .inl (kI, 40, .inl q_from)), (ra 9, .inl (kI, 40, .inl q_to)), (ra 10, .inl (kI, 6, .inl q_goal)), (ra 11, .inl (kI, 1019, .inl q_now)), (ra 14, .inl (kI, 12, .inl q_reach)), (ra 17, .inl (kZ, 168, .inl q_isAt)), (m0, .inr (11, oX11 ra (upd x0 0 0))), (ra 2, .inl (kI, 8, .inl q_told))] H := hP
    have hD : va_D A [(ra 8, .inl (kI, 40, .inl q_from)), (ra 9, .inl (kI, 40, .inl q_to)), (ra 10, .inl (kI, 6, .inl q_goal)), (ra 11, .inl (kI, 1019, .inl q_now)), (ra 14, .inl (kI, 12, .inl q_reach)), (ra 17, .inl (kZ, 168, .inl q_isAt)), (m0, .inr (11, oX11 ra (upd x0 0 0))), (ra 2, .inl (kI, 8, .inl q_told))] := hD
    refine W.widen (k := 0) (n := 0) (Nat.le_of_ble_eq_true rfl) (Nat.le_of_ble_eq_true rfl) ?_
    refine lv_if_ne (tgt := 26) hx hb dX11_hop_17 (by decide) (fun c14 => ?_) (fun c14 => ?_)
    · have b15 : iv 1 1 r12 := iv_neLo c14 w13.1 (iv_k (by decide) (by decide) : iv 0 0 0) (by decide) (by decide)
      have b16 : iv 1 10 p1 := (w13.2).resolve_left (iv_ne b15 (iv_k (by decide) (by decide) : iv 0 0 0) (by decide))
      refine lv_iload_n hx hb dX11_hop_26 rfl (lv_at hl 3 rfl) ?_
      by_cases c17 : p2 = 0
      · refine lv_tableIn (off := 33) (tgt := 60) hx hb dX11_hop_27 (by rw [c17]; decide) (by rw [c17]; decide) (by rw [c17]; decide) (by decide) ?_
        have b18 : iv 0 0 p2 := iv_eqL c17 (iv_k (by decide) (by decide) : iv 0 0 0)
        refine lv_aload_n hx hb dX11_hop_60 rfl (lv_at hl 0 rfl) ?_
        refine lv_iload_n hx hb dX11_hop_61 rfl (lv_at hl 1 rfl) ?_
        refine lv_iload_n hx hb dX11_hop_62 rfl (lv_at hl 2 rfl) ?_
        have hPc := hP.sub (ws' := [(m0, .inr (11, oX11 ra (upd x0 0 0))), (ra 11, .inl (kI, 1019, .inl q_now))]) [6, 3] rfl
        have hDc := hD.sub (ws' := [(m0, .inr (11, oX11 ra (upd x0 0 0))), (ra 11, .inl (kI, 1019, .inl q_now))]) [6, 3] (by decide +kernel) rfl
        have hFc := va_free (wc := [(m0, .inr (11, oX11 ra (upd x0 0 0))), (ra 11, .inl (kI, 1019, .inl q_now))]) hD hS hA [6, 3] rfl
        refine va_calli (va_runV (As := [.int p0, .int p1]) (rest := []) ⟨hx, hb, hml, hown, hts⟩ (s11_addresses l dC dI kB kI kJ kZ kC kS H.size m0 ra (upd x0 0 0) q_now p0 p1 ((fI_u hX (k := 0) ((iv_w (iv_k (by decide) (by decide) : iv 0 0 0) (by decide) (by decide))))) (hq_now) (b11) (b16)) (cwV 2 hts gX11_hop_X11_addresses rfl rfl rfl (by decide +kernel) ⟨Nat.le_of_ble_eq_true rfl, Nat.le_of_ble_eq_true rfl⟩) ⟨fun a U g mk q => by obtain ⟨q0, q1, qP, qE, qD⟩ := q; exact ⟨q0, q1, qP, kE_call qE, qD⟩, va_recv hK hP (ci := 11) (q0 := 6) rfl rfl, fun U hU hW => ⟨rfl, by rw [hU], by rw [hU]; exact hPc, kE_warm hW hE, hDc.weaken (fun _ _ _ _ => trivial)⟩⟩ rfl rfl hl.1 rfl (lv_room (Nat.le_of_ble_eq_true rfl)) dX11_hop_63 ⟨Nat.le_of_ble_eq_true rfl, Nat.le_of_ble_eq_true rfl⟩) hS (fun q _ h => hFc q h) hFc (fun r19 u t H1 locs ht hvm w20 hB hz1 hk1 hS => ?_)
        obtain ⟨hP1, hD1⟩ := hB
        rw [ht] at hP1
        try dsimp only at w20
        obtain ⟨hP, hD⟩ := va_join (wr := [(ra 8, .inl (kI, 40, .inl q_from)), (ra 9, .inl (kI, 40, .inl q_to)), (ra 10, .inl (kI, 6, .inl q_goal)), (ra 14, .inl (kI, 12, .inl q_reach)), (ra 17, .inl (kZ, 168, .inl q_isAt)), (ra 2, .inl (kI, 8, .inl q_told))]) (w1 := [(m0, .inr (11, oX11 ra (upd x0 0 0))), (ra 11, .inl (kI, 1019, .inl q_now))]) hP hD [6, 3] [0, 1, 2, 4, 5, 7] rfl rfl (by decide +kernel) (by decide +kernel) hk1 hFc hP1 hD1
        generalize H1 = H at hP hS ⊢
        have hP : va_P (dC, dI) vwCl [(ra 8, .inl (kI, 40, .inl q_from)), (ra 9, .inl (kI, 40, .inl q_to)), (ra 10, .inl (kI, 6, .inl q_goal)), (ra 14, .inl (kI, 12, .inl q_reach)), (ra 17, .inl (kZ, 168, .inl q_isAt)), (ra 2, .inl (kI, 8, .inl q_told)), (m0, .inr (11, oX11 ra (upd x0 0 0))), (ra 11, .inl (kI, 1019, .inl q_now))] H := hP
        have hD : va_D A [(ra 8, .inl (kI, 40, .inl q_from)), (ra 9, .inl (kI, 40, .inl q_to)), (ra 10, .inl (kI, 6, .inl q_goal)), (ra 14, .inl (kI, 12, .inl q_reach)), (ra 17, .inl (kZ, 168, .inl q_isAt)), (ra 2, .inl (kI, 8, .inl q_told)), (m0, .inr (11, oX11 ra (upd x0 0 0))), (ra 11, .inl (kI, 1019, .inl q_now))] := hD
        refine W.widen (k := 0) (n := 0) (Nat.le_of_ble_eq_true rfl) (Nat.le_of_ble_eq_true rfl) ?_
        have hP9 := hP.sub (ws' := [(m0, .inr (11, oX11 ra (upd x0 0 0))), (ra 2, .inl (kI, 8, .inl q_told)), (ra 8, .inl (kI, 40, .inl q_from)), (ra 9, .inl (kI, 40, .inl q_to)), (ra 10, .inl (kI, 6, .inl q_goal)), (ra 11, .inl (kI, 1019, .inl q_now)), (ra 14, .inl (kI, 12, .inl q_reach)), (ra 17, .inl (kZ, 168, .inl q_isAt))]) [6, 5, 0, 1, 2, 7, 3, 4] rfl
        have hD9 := hD.sub (ws' := [(m0, .inr (11, oX11 ra (upd x0 0 0))), (ra 2, .inl (kI, 8, .inl q_told)), (ra 8, .inl (kI, 40, .inl q_from)), (ra 9, .inl (kI, 40, .inl q_to)), (ra 10, .inl (kI, 6, .inl q_goal)), (ra 11, .inl (kI, 1019, .inl q_now)), (ra 14, .inl (kI, 12, .inl q_reach)), (ra 17, .inl (kZ, 168, .inl q_isAt))]) [6, 5, 0, 1, 2, 7, 3, 4] (by decide +kernel) rfl
        exact W.iret (v := r19) hx hb hr (fun t ht hW => ⟨⟨r19, (), rfl, trivial, upd x0 0 0, q_isAt, (fI_u hX (k := 0) ((iv_w (iv_k (by decide) (by decide) : iv 0 0 0) (by decide) (by decide)))), by rw [ht]; exact hP9, hD9⟩, hS.F ht⟩) hS.2.2 dX11_hop_66
      by_cases c21 : p2 = 1
      · refine lv_tableIn (off := 40) (tgt := 67) hx hb dX11_hop_27 (by rw [c21]; decide) (by rw [c21]; decide) (by rw [c21]; decide) (by decide) ?_
        have b22 : iv 1 1 p2 := iv_eqL c21 (iv_k (by decide) (by decide) : iv 1 1 1)
        refine lv_aload_n hx hb dX11_hop_67 rfl (lv_at hl 0 rfl) ?_
        refine va_get (D := (dC, dI)) (ci := 11) (v := .ref (ra 11)) (C := RX11) (T := TX11) (N := 61) hx hb hts hin11 hown hK hP 6 rfl rfl 12 (by decide) hw_1 (fun _ h9 => h9) rfl dX11_hop_68 ?_
        refine lv_iload_n hx hb dX11_hop_71 rfl (lv_at hl 1 rfl) ?_
        refine lv_iload_n hx hb dX11_hop_72 rfl (lv_at hl 2 rfl) ?_
        have hPc := hP.sub (ws' := []) [] rfl
        have hDc := hD.sub (ws' := []) [] (by decide +kernel) rfl
        have hFc := va_free (wc := []) hD hS hA [] rfl
        refine va_calli (va_runS (As := [.int p0, .int p1]) (rest := [.ref (ra 11)]) ⟨hx, hb, hml, hown, hts⟩ (s11_sentAt l dC dI kB kI kJ kZ kC kS H.size p0 p1 (b11) (b16)) (va_cwS 2 hts gX11_hop_X11_sentAt rfl rfl rfl (by decide +kernel) ⟨Nat.le_of_ble_eq_true rfl, Nat.le_of_ble_eq_true rfl⟩) ⟨fun a U g mk q => by obtain ⟨q0, q1, qP, qE, qD⟩ := q; exact ⟨q0, q1, qP, kE_call qE, qD⟩, fun U hU hW => ⟨rfl, by rw [hU], by rw [hU]; exact hPc, kE_warm hW hE, hDc.weaken (fun _ _ _ _ => trivial)⟩⟩ rfl rfl hl.1 rfl (lv_room (Nat.le_of_ble_eq_true rfl)) dX11_hop_73 ⟨Nat.le_of_ble_eq_true rfl, Nat.le_of_ble_eq_true rfl⟩) hS (fun q _ h => hFc q h) hFc (fun r23 u t H1 locs ht hvm w24 hB hz1 hk1 hS => ?_)
        obtain ⟨hP1, hD1⟩ := hB
        rw [ht] at hP1
        try dsimp only at w24
        obtain ⟨hP, hD⟩ := va_join (wr := [(ra 8, .inl (kI, 40, .inl q_from)), (ra 9, .inl (kI, 40, .inl q_to)), (ra 10, .inl (kI, 6, .inl q_goal)), (ra 11, .inl (kI, 1019, .inl q_now)), (ra 14, .inl (kI, 12, .inl q_reach)), (ra 17, .inl (kZ, 168, .inl q_isAt)), (m0, .inr (11, oX11 ra (upd x0 0 0))), (ra 2, .inl (kI, 8, .inl q_told))]) (w1 := []) hP hD [] [0, 1, 2, 3, 4, 5, 6, 7] rfl rfl (by decide +kernel) (by decide +kernel) hk1 hFc hP1 hD1
        generalize H1 = H at hP hS ⊢
        have hP : va_P (dC, dI) vwCl [(ra 8, .inl (kI, 40, .inl q_from)), (ra 9, .inl (kI, 40, .inl q_to)), (ra 10, .inl (kI, 6, .inl q_goal)), (ra 11, .inl (kI, 1019, .inl q_now)), (ra 14, .inl (kI, 12, .inl q_reach)), (ra 17, .inl (kZ, 168, .inl q_isAt)), (m0, .inr (11, oX11 ra (upd x0 0 0))), (ra 2, .inl (kI, 8, .inl q_told))] H := hP
        have hD : va_D A [(ra 8, .inl (kI, 40, .inl q_from)), (ra 9, .inl (kI, 40, .inl q_to)), (ra 10, .inl (kI, 6, .inl q_goal)), (ra 11, .inl (kI, 1019, .inl q_now)), (ra 14, .inl (kI, 12, .inl q_reach)), (ra 17, .inl (kZ, 168, .inl q_isAt)), (m0, .inr (11, oX11 ra (upd x0 0 0))), (ra 2, .inl (kI, 8, .inl q_told))] := hD
        refine W.widen (k := 0) (n := 0) (Nat.le_of_ble_eq_true rfl) (Nat.le_of_ble_eq_true rfl) ?_
        refine va_iald hx hb hK hP 3 1 rfl rfl (iv_in w24 (by decide) (by decide)) dX11_hop_76 ?_
        refine lv_topi (fun z25 _ => ?_)
        have hP9 := hP.sub (ws' := [(m0, .inr (11, oX11 ra (upd x0 0 0))), (ra 2, .inl (kI, 8, .inl q_told)), (ra 8, .inl (kI, 40, .inl q_from)), (ra 9, .inl (kI, 40, .inl q_to)), (ra 10, .inl (kI, 6, .inl q_goal)), (ra 11, .inl (kI, 1019, .inl q_now)), (ra 14, .inl (kI, 12, .inl q_reach)), (ra 17, .inl (kZ, 168, .inl q_isAt))]) [6, 7, 0, 1, 2, 3, 4, 5] rfl
        have hD9 := hD.sub (ws' := [(m0, .inr (11, oX11 ra (upd x0 0 0))), (ra 2, .inl (kI, 8, .inl q_told)), (ra 8, .inl (kI, 40, .inl q_from)), (ra 9, .inl (kI, 40, .inl q_to)), (ra 10, .inl (kI, 6, .inl q_goal)), (ra 11, .inl (kI, 1019, .inl q_now)), (ra 14, .inl (kI, 12, .inl q_reach)), (ra 17, .inl (kZ, 168, .inl q_isAt))]) [6, 7, 0, 1, 2, 3, 4, 5] (by decide +kernel) rfl
        exact W.iret (v := z25) hx hb hr (fun t ht hW => ⟨⟨z25, (), rfl, trivial, upd x0 0 0, q_isAt, (fI_u hX (k := 0) ((iv_w (iv_k (by decide) (by decide) : iv 0 0 0) (by decide) (by decide)))), by rw [ht]; exact hP9, hD9⟩, hS.F ht⟩) hS.2.2 dX11_hop_77
      by_cases c26 : p2 = 2
      · refine lv_tableIn (off := 51) (tgt := 78) hx hb dX11_hop_27 (by rw [c26]; decide) (by rw [c26]; decide) (by rw [c26]; decide) (by decide) ?_
        have b27 : iv 2 2 p2 := iv_eqL c26 (iv_k (by decide) (by decide) : iv 2 2 2)
        refine lv_aload_n hx hb dX11_hop_78 rfl (lv_at hl 0 rfl) ?_
        refine lv_iload_n hx hb dX11_hop_79 rfl (lv_at hl 1 rfl) ?_
        refine lv_iload_n hx hb dX11_hop_80 rfl (lv_at hl 2 rfl) ?_
        have hPc := hP.sub (ws' := [(m0, .inr (11, oX11 ra (upd x0 0 0))), (ra 2, .inl (kI, 8, .inl q_told)), (ra 11, .inl (kI, 1019, .inl q_now))]) [6, 7, 3] rfl
        have hDc := hD.sub (ws' := [(m0, .inr (11, oX11 ra (upd x0 0 0))), (ra 2, .inl (kI, 8, .inl q_told)), (ra 11, .inl (kI, 1019, .inl q_now))]) [6, 7, 3] (by decide +kernel) rfl
        have hFc := va_free (wc := [(m0, .inr (11, oX11 ra (upd x0 0 0))), (ra 2, .inl (kI, 8, .inl q_told)), (ra 11, .inl (kI, 1019, .inl q_now))]) hD hS hA [6, 7, 3] rfl
        refine va_calli (va_runV (As := [.int p0, .int p1]) (rest := []) ⟨hx, hb, hml, hown, hts⟩ (s11_edgesAt l dC dI kB kI kJ kZ kC kS H.size m0 ra (upd x0 0 0) q_told q_now p0 p1 ((fI_u hX (k := 0) ((iv_w (iv_k (by decide) (by decide) : iv 0 0 0) (by decide) (by decide))))) (hq_told) (hq_now) (b11) (b16)) (cwV 2 hts gX11_hop_X11_edgesAt rfl rfl rfl (by decide +kernel) ⟨Nat.le_of_ble_eq_true rfl, Nat.le_of_ble_eq_true rfl⟩) ⟨fun a U g mk q => by obtain ⟨q0, q1, qP, qE, qD⟩ := q; exact ⟨q0, q1, qP, kE_call qE, qD⟩, va_recv hK hP (ci := 11) (q0 := 6) rfl rfl, fun U hU hW => ⟨rfl, by rw [hU], by rw [hU]; exact hPc, kE_warm hW hE, hDc.weaken (fun _ _ _ _ => trivial)⟩⟩ rfl rfl hl.1 rfl (lv_room (Nat.le_of_ble_eq_true rfl)) dX11_hop_81 ⟨Nat.le_of_ble_eq_true rfl, Nat.le_of_ble_eq_true rfl⟩) hS (fun q _ h => hFc q h) hFc (fun r28 u t H1 locs ht hvm w29 hB hz1 hk1 hS => ?_)
        obtain ⟨hP1, hD1⟩ := hB
        rw [ht] at hP1
        try dsimp only at w29
        obtain ⟨hP, hD⟩ := va_join (wr := [(ra 8, .inl (kI, 40, .inl q_from)), (ra 9, .inl (kI, 40, .inl q_to)), (ra 10, .inl (kI, 6, .inl q_goal)), (ra 14, .inl (kI, 12, .inl q_reach)), (ra 17, .inl (kZ, 168, .inl q_isAt))]) (w1 := [(m0, .inr (11, oX11 ra (upd x0 0 0))), (ra 2, .inl (kI, 8, .inl q_told)), (ra 11, .inl (kI, 1019, .inl q_now))]) hP hD [6, 7, 3] [0, 1, 2, 4, 5] rfl rfl (by decide +kernel) (by decide +kernel) hk1 hFc hP1 hD1
        generalize H1 = H at hP hS ⊢
        have hP : va_P (dC, dI) vwCl [(ra 8, .inl (kI, 40, .inl q_from)), (ra 9, .inl (kI, 40, .inl q_to)), (ra 10, .inl (kI, 6, .inl q_goal)), (ra 14, .inl (kI, 12, .inl q_reach)), (ra 17, .inl (kZ, 168, .inl q_isAt)), (m0, .inr (11, oX11 ra (upd x0 0 0))), (ra 2, .inl (kI, 8, .inl q_told)), (ra 11, .inl (kI, 1019, .inl q_now))] H := hP
        have hD : va_D A [(ra 8, .inl (kI, 40, .inl q_from)), (ra 9, .inl (kI, 40, .inl q_to)), (ra 10, .inl (kI, 6, .inl q_goal)), (ra 14, .inl (kI, 12, .inl q_reach)), (ra 17, .inl (kZ, 168, .inl q_isAt)), (m0, .inr (11, oX11 ra (upd x0 0 0))), (ra 2, .inl (kI, 8, .inl q_told)), (ra 11, .inl (kI, 1019, .inl q_now))] := hD
        refine W.widen (k := 0) (n := 0) (Nat.le_of_ble_eq_true rfl) (Nat.le_of_ble_eq_true rfl) ?_
        have hP9 := hP.sub (ws' := [(m0, .inr (11, oX11 ra (upd x0 0 0))), (ra 2, .inl (kI, 8, .inl q_told)), (ra 8, .inl (kI, 40, .inl q_from)), (ra 9, .inl (kI, 40, .inl q_to)), (ra 10, .inl (kI, 6, .inl q_goal)), (ra 11, .inl (kI, 1019, .inl q_now)), (ra 14, .inl (kI, 12, .inl q_reach)), (ra 17, .inl (kZ, 168, .inl q_isAt))]) [5, 6, 0, 1, 2, 7, 3, 4] rfl
        have hD9 := hD.sub (ws' := [(m0, .inr (11, oX11 ra (upd x0 0 0))), (ra 2, .inl (kI, 8, .inl q_told)), (ra 8, .inl (kI, 40, .inl q_from)), (ra 9, .inl (kI, 40, .inl q_to)), (ra 10, .inl (kI, 6, .inl q_goal)), (ra 11, .inl (kI, 1019, .inl q_now)), (ra 14, .inl (kI, 12, .inl q_reach)), (ra 17, .inl (kZ, 168, .inl q_isAt))]) [5, 6, 0, 1, 2, 7, 3, 4] (by decide +kernel) rfl
        exact W.iret (v := r28) hx hb hr (fun t ht hW => ⟨⟨r28, (), rfl, trivial, upd x0 0 0, q_isAt, (fI_u hX (k := 0) ((iv_w (iv_k (by decide) (by decide) : iv 0 0 0) (by decide) (by decide)))), by rw [ht]; exact hP9, hD9⟩, hS.F ht⟩) hS.2.2 dX11_hop_84
      by_cases c30 : p2 = 3
      · refine lv_tableIn (off := 58) (tgt := 85) hx hb dX11_hop_27 (by rw [c30]; decide) (by rw [c30]; decide) (by rw [c30]; decide) (by decide) ?_
        have b31 : iv 3 3 p2 := iv_eqL c30 (iv_k (by decide) (by decide) : iv 3 3 3)
        refine lv_aload_n hx hb dX11_hop_85 rfl (lv_at hl 0 rfl) ?_
        refine lv_iload_n hx hb dX11_hop_86 rfl (lv_at hl 1 rfl) ?_
        refine lv_iload_n hx hb dX11_hop_87 rfl (lv_at hl 2 rfl) ?_
        have hPc := hP.sub (ws' := [(m0, .inr (11, oX11 ra (upd x0 0 0))), (ra 2, .inl (kI, 8, .inl q_told)), (ra 8, .inl (kI, 40, .inl q_from)), (ra 9, .inl (kI, 40, .inl q_to)), (ra 10, .inl (kI, 6, .inl q_goal)), (ra 14, .inl (kI, 12, .inl q_reach)), (ra 17, .inl (kZ, 168, .inl q_isAt))]) [6, 7, 0, 1, 2, 4, 5] rfl
        have hDc := hD.sub (ws' := [(m0, .inr (11, oX11 ra (upd x0 0 0))), (ra 2, .inl (kI, 8, .inl q_told)), (ra 8, .inl (kI, 40, .inl q_from)), (ra 9, .inl (kI, 40, .inl q_to)), (ra 10, .inl (kI, 6, .inl q_goal)), (ra 14, .inl (kI, 12, .inl q_reach)), (ra 17, .inl (kZ, 168, .inl q_isAt))]) [6, 7, 0, 1, 2, 4, 5] (by decide +kernel) rfl
        have hFc := va_free (wc := [(m0, .inr (11, oX11 ra (upd x0 0 0))), (ra 2, .inl (kI, 8, .inl q_told)), (ra 8, .inl (kI, 40, .inl q_from)), (ra 9, .inl (kI, 40, .inl q_to)), (ra 10, .inl (kI, 6, .inl q_goal)), (ra 14, .inl (kI, 12, .inl q_reach)), (ra 17, .inl (kZ, 168, .inl q_isAt))]) hD hS hA [6, 7, 0, 1, 2, 4, 5] rfl
        refine va_calli (va_runV (As := [.int p0, .int p1]) (rest := []) ⟨hx, hb, hml, hown, hts⟩ (s11_places l dC dI kB kI kJ kZ kC kS H.size m0 ra (upd x0 0 0) q_told q_from q_to q_goal q_reach q_isAt p0 p1 ((fI_u hX (k := 0) ((iv_w (iv_k (by decide) (by decide) : iv 0 0 0) (by decide) (by decide))))) (hq_told) (hq_from) (hq_to) (hq_goal) (b11) (b16)) (cwV 2 hts gX11_hop_X11_places rfl rfl rfl (by decide +kernel) ⟨Nat.le_of_ble_eq_true rfl, Nat.le_of_ble_eq_true rfl⟩) ⟨fun a U g mk q => by obtain ⟨q0, q1, qP, qE, qD⟩ := q; exact ⟨q0, q1, qP, kE_call qE, qD⟩, va_recv hK hP (ci := 11) (q0 := 6) rfl rfl, fun U hU hW => ⟨rfl, by rw [hU], by rw [hU]; exact hPc, kE_warm hW hE, hDc.weaken (fun _ _ _ _ => trivial)⟩⟩ rfl rfl hl.1 rfl (lv_room (Nat.le_of_ble_eq_true rfl)) dX11_hop_88 ⟨Nat.le_of_ble_eq_true rfl, Nat.le_of_ble_eq_true rfl⟩) hS (fun q _ h => hFc q h) hFc (fun r32 u t H1 locs ht hvm w33 hB hz1 hk1 hS => ?_)
        obtain ⟨f34, hP1, hD1⟩ := hB
        rw [ht] at hP1
        try dsimp only at w33
        obtain ⟨hP, hD⟩ := va_join (wr := [(ra 11, .inl (kI, 1019, .inl q_now))]) (w1 := [(m0, .inr (11, oX11 ra (upd x0 0 0))), (ra 2, .inl (kI, 8, .inl q_told)), (ra 8, .inl (kI, 40, .inl q_from)), (ra 9, .inl (kI, 40, .inl q_to)), (ra 10, .inl (kI, 6, .inl q_goal)), (ra 14, .inl (kI, 12, .inl q_reach)), (ra 17, .inl (kZ, 168, .inl f34))]) hP hD [6, 7, 0, 1, 2, 4, 5] [3] rfl rfl (by decide +kernel) (by decide +kernel) hk1 hFc hP1 hD1
        generalize H1 = H at hP hS ⊢
        have hP : va_P (dC, dI) vwCl [(ra 11, .inl (kI, 1019, .inl q_now)), (m0, .inr (11, oX11 ra (upd x0 0 0))), (ra 2, .inl (kI, 8, .inl q_told)), (ra 8, .inl (kI, 40, .inl q_from)), (ra 9, .inl (kI, 40, .inl q_to)), (ra 10, .inl (kI, 6, .inl q_goal)), (ra 14, .inl (kI, 12, .inl q_reach)), (ra 17, .inl (kZ, 168, .inl f34))] H := hP
        have hD : va_D A [(ra 11, .inl (kI, 1019, .inl q_now)), (m0, .inr (11, oX11 ra (upd x0 0 0))), (ra 2, .inl (kI, 8, .inl q_told)), (ra 8, .inl (kI, 40, .inl q_from)), (ra 9, .inl (kI, 40, .inl q_to)), (ra 10, .inl (kI, 6, .inl q_goal)), (ra 14, .inl (kI, 12, .inl q_reach)), (ra 17, .inl (kZ, 168, .inl f34))] := hD
        refine W.widen (k := 0) (n := 0) (Nat.le_of_ble_eq_true rfl) (Nat.le_of_ble_eq_true rfl) ?_
        have hP9 := hP.sub (ws' := [(m0, .inr (11, oX11 ra (upd x0 0 0))), (ra 2, .inl (kI, 8, .inl q_told)), (ra 8, .inl (kI, 40, .inl q_from)), (ra 9, .inl (kI, 40, .inl q_to)), (ra 10, .inl (kI, 6, .inl q_goal)), (ra 11, .inl (kI, 1019, .inl q_now)), (ra 14, .inl (kI, 12, .inl q_reach)), (ra 17, .inl (kZ, 168, .inl f34))]) [1, 2, 3, 4, 5, 0, 6, 7] rfl
        have hD9 := hD.sub (ws' := [(m0, .inr (11, oX11 ra (upd x0 0 0))), (ra 2, .inl (kI, 8, .inl q_told)), (ra 8, .inl (kI, 40, .inl q_from)), (ra 9, .inl (kI, 40, .inl q_to)), (ra 10, .inl (kI, 6, .inl q_goal)), (ra 11, .inl (kI, 1019, .inl q_now)), (ra 14, .inl (kI, 12, .inl q_reach)), (ra 17, .inl (kZ, 168, .inl f34))]) [1, 2, 3, 4, 5, 0, 6, 7] (by decide +kernel) rfl
        exact W.iret (v := r32) hx hb hr (fun t ht hW => ⟨⟨r32, (), rfl, trivial, upd x0 0 0, f34, (fI_u hX (k := 0) ((iv_w (iv_k (by decide) (by decide) : iv 0 0 0) (by decide) (by decide)))), by rw [ht]; exact hP9, hD9⟩, hS.F ht⟩) hS.2.2 dX11_hop_91
      by_cases c35 : p2 = 4
      · refine lv_tableIn (off := 65) (tgt := 92) hx hb dX11_hop_27 (by rw [c35]; decide) (by rw [c35]; decide) (by rw [c35]; decide) (by decide) ?_
        have b36 : iv 4 4 p2 := iv_eqL c35 (iv_k (by decide) (by decide) : iv 4 4 4)
        refine lv_aload_n hx hb dX11_hop_92 rfl (lv_at hl 0 rfl) ?_
        refine lv_iload_n hx hb dX11_hop_93 rfl (lv_at hl 1 rfl) ?_
        refine lv_iload_n hx hb dX11_hop_94 rfl (lv_at hl 2 rfl) ?_
        have hPc := hP.sub (ws' := [(m0, .inr (11, oX11 ra (upd x0 0 0))), (ra 2, .inl (kI, 8, .inl q_told)), (ra 8, .inl (kI, 40, .inl q_from)), (ra 9, .inl (kI, 40, .inl q_to)), (ra 10, .inl (kI, 6, .inl q_goal)), (ra 11, .inl (kI, 1019, .inl q_now)), (ra 14, .inl (kI, 12, .inl q_reach)), (ra 17, .inl (kZ, 168, .inl q_isAt))]) [6, 7, 0, 1, 2, 3, 4, 5] rfl
        have hDc := hD.sub (ws' := [(m0, .inr (11, oX11 ra (upd x0 0 0))), (ra 2, .inl (kI, 8, .inl q_told)), (ra 8, .inl (kI, 40, .inl q_from)), (ra 9, .inl (kI, 40, .inl q_to)), (ra 10, .inl (kI, 6, .inl q_goal)), (ra 11, .inl (kI, 1019, .inl q_now)), (ra 14, .inl (kI, 12, .inl q_reach)), (ra 17, .inl (kZ, 168, .inl q_isAt))]) [6, 7, 0, 1, 2, 3, 4, 5] (by decide +kernel) rfl
        have hFc := va_free (wc := [(m0, .inr (11, oX11 ra (upd x0 0 0))), (ra 2, .inl (kI, 8, .inl q_told)), (ra 8, .inl (kI, 40, .inl q_from)), (ra 9, .inl (kI, 40, .inl q_to)), (ra 10, .inl (kI, 6, .inl q_goal)), (ra 11, .inl (kI, 1019, .inl q_now)), (ra 14, .inl (kI, 12, .inl q_reach)), (ra 17, .inl (kZ, 168, .inl q_isAt))]) hD hS hA [6, 7, 0, 1, 2, 3, 4, 5] rfl
        refine va_calli (va_runV (As := [.int p0, .int p1]) (rest := []) ⟨hx, hb, hml, hown, hts⟩ (s11_hidden l dC dI kB kI kJ kZ kC kS H.size m0 ra (upd x0 0 0) q_told q_from q_to q_goal q_now q_reach q_isAt p0 p1 ((fI_u hX (k := 0) ((iv_w (iv_k (by decide) (by decide) : iv 0 0 0) (by decide) (by decide))))) (hq_told) (hq_from) (hq_to) (hq_goal) (hq_now) (b11) (b16)) (cwV 2 hts gX11_hop_X11_hidden rfl rfl rfl (by decide +kernel) ⟨Nat.le_of_ble_eq_true rfl, Nat.le_of_ble_eq_true rfl⟩) ⟨fun a U g mk q => by obtain ⟨q0, q1, qP, qE, qD⟩ := q; exact ⟨q0, q1, qP, kE_call qE, qD⟩, va_recv hK hP (ci := 11) (q0 := 6) rfl rfl, fun U hU hW => ⟨rfl, by rw [hU], by rw [hU]; exact hPc, kE_warm hW hE, hDc.weaken (fun _ _ _ _ => trivial)⟩⟩ rfl rfl hl.1 rfl (lv_room (Nat.le_of_ble_eq_true rfl)) dX11_hop_95 ⟨Nat.le_of_ble_eq_true rfl, Nat.le_of_ble_eq_true rfl⟩) hS (fun q _ h => hFc q h) hFc (fun r37 u t H1 locs ht hvm w38 hB hz1 hk1 hS => ?_)
        obtain ⟨f39, hP1, hD1⟩ := hB
        rw [ht] at hP1
        try dsimp only at w38
        obtain ⟨hP, hD⟩ := va_join (wr := []) (w1 := [(m0, .inr (11, oX11 ra (upd x0 0 0))), (ra 2, .inl (kI, 8, .inl q_told)), (ra 8, .inl (kI, 40, .inl q_from)), (ra 9, .inl (kI, 40, .inl q_to)), (ra 10, .inl (kI, 6, .inl q_goal)), (ra 11, .inl (kI, 1019, .inl q_now)), (ra 14, .inl (kI, 12, .inl q_reach)), (ra 17, .inl (kZ, 168, .inl f39))]) hP hD [6, 7, 0, 1, 2, 3, 4, 5] [] rfl rfl (by decide +kernel) (by decide +kernel) hk1 hFc hP1 hD1
        generalize H1 = H at hP hS ⊢
        have hP : va_P (dC, dI) vwCl [(m0, .inr (11, oX11 ra (upd x0 0 0))), (ra 2, .inl (kI, 8, .inl q_told)), (ra 8, .inl (kI, 40, .inl q_from)), (ra 9, .inl (kI, 40, .inl q_to)), (ra 10, .inl (kI, 6, .inl q_goal)), (ra 11, .inl (kI, 1019, .inl q_now)), (ra 14, .inl (kI, 12, .inl q_reach)), (ra 17, .inl (kZ, 168, .inl f39))] H := hP
        have hD : va_D A [(m0, .inr (11, oX11 ra (upd x0 0 0))), (ra 2, .inl (kI, 8, .inl q_told)), (ra 8, .inl (kI, 40, .inl q_from)), (ra 9, .inl (kI, 40, .inl q_to)), (ra 10, .inl (kI, 6, .inl q_goal)), (ra 11, .inl (kI, 1019, .inl q_now)), (ra 14, .inl (kI, 12, .inl q_reach)), (ra 17, .inl (kZ, 168, .inl f39))] := hD
        refine W.widen (k := 0) (n := 0) (Nat.le_of_ble_eq_true rfl) (Nat.le_of_ble_eq_true rfl) ?_
        have hP9 := hP.sub (ws' := [(m0, .inr (11, oX11 ra (upd x0 0 0))), (ra 2, .inl (kI, 8, .inl q_told)), (ra 8, .inl (kI, 40, .inl q_from)), (ra 9, .inl (kI, 40, .inl q_to)), (ra 10, .inl (kI, 6, .inl q_goal)), (ra 11, .inl (kI, 1019, .inl q_now)), (ra 14, .inl (kI, 12, .inl q_reach)), (ra 17, .inl (kZ, 168, .inl f39))]) [0, 1, 2, 3, 4, 5, 6, 7] rfl
        have hD9 := hD.sub (ws' := [(m0, .inr (11, oX11 ra (upd x0 0 0))), (ra 2, .inl (kI, 8, .inl q_told)), (ra 8, .inl (kI, 40, .inl q_from)), (ra 9, .inl (kI, 40, .inl q_to)), (ra 10, .inl (kI, 6, .inl q_goal)), (ra 11, .inl (kI, 1019, .inl q_now)), (ra 14, .inl (kI, 12, .inl q_reach)), (ra 17, .inl (kZ, 168, .inl f39))]) [0, 1, 2, 3, 4, 5, 6, 7] (by decide +kernel) rfl
        exact W.iret (v := r37) hx hb hr (fun t ht hW => ⟨⟨r37, (), rfl, trivial, upd x0 0 0, f39, (fI_u hX (k := 0) ((iv_w (iv_k (by decide) (by decide) : iv 0 0 0) (by decide) (by decide)))), by rw [ht]; exact hP9, hD9⟩, hS.F ht⟩) hS.2.2 dX11_hop_98
      refine lv_tableOut (tgt := 99) hx hb dX11_hop_27 (by have g0 : ¬ p2.toInt = 0 := fun w => c17 (Int32.toInt_inj.mp w); have g1 : ¬ p2.toInt = 1 := fun w => c21 (Int32.toInt_inj.mp w); have g2 : ¬ p2.toInt = 2 := fun w => c26 (Int32.toInt_inj.mp w); have g3 : ¬ p2.toInt = 3 := fun w => c30 (Int32.toInt_inj.mp w); have g4 : ¬ p2.toInt = 4 := fun w => c35 (Int32.toInt_inj.mp w); have gb := (iv_t p2); have gb1 := gb.1; have gb2 := gb.2; omega) (by decide) ?_
      refine lv_aload_n hx hb dX11_hop_99 rfl (lv_at hl 0 rfl) ?_
      refine lv_iconst (v := 1) hx hb dX11_hop_100 (by decide) ?_
      have hPc := hP.sub (ws' := [(m0, .inr (11, oX11 ra (upd x0 0 0)))]) [6] rfl
      have hDc := hD.sub (ws' := [(m0, .inr (11, oX11 ra (upd x0 0 0)))]) [6] (by decide +kernel) rfl
      have hFc := va_free (wc := [(m0, .inr (11, oX11 ra (upd x0 0 0)))]) hD hS hA [6] rfl
      refine va_calli (va_runV (As := [.int 1]) (rest := []) ⟨hx, hb, hml, hown, hts⟩ (s11_fail l dC dI kB kI kJ kZ kC kS H.size m0 ra (upd x0 0 0) 1 ((fI_u hX (k := 0) ((iv_w (iv_k (by decide) (by decide) : iv 0 0 0) (by decide) (by decide)))))) (cwV 1 hts gX11_hop_X11_fail rfl rfl rfl (by decide +kernel) ⟨Nat.le_of_ble_eq_true rfl, Nat.le_of_ble_eq_true rfl⟩) ⟨fun a U g mk q => by obtain ⟨q0, q1, qP, qE, qD⟩ := q; exact ⟨q0, q1, qP, kE_call qE, qD⟩, va_recv hK hP (ci := 11) (q0 := 6) rfl rfl, fun U hU hW => ⟨rfl, by rw [hU], by rw [hU]; exact hPc, kE_warm hW hE, hDc.weaken (fun _ _ _ _ => trivial)⟩⟩ rfl rfl hl.1 rfl (lv_room (Nat.le_of_ble_eq_true rfl)) dX11_hop_101 ⟨Nat.le_of_ble_eq_true rfl, Nat.le_of_ble_eq_true rfl⟩) hS (fun q _ h => hFc q h) hFc (fun r40 u t H1 locs ht hvm w41 hB hz1 hk1 hS => ?_)
      obtain ⟨y42, hq43, hq44, hP1, hD1⟩ := hB
      rw [ht] at hP1
      try dsimp only at w41
      obtain ⟨hP, hD⟩ := va_join (wr := [(ra 8, .inl (kI, 40, .inl q_from)), (ra 9, .inl (kI, 40, .inl q_to)), (ra 10, .inl (kI, 6, .inl q_goal)), (ra 11, .inl (kI, 1019, .inl q_now)), (ra 14, .inl (kI, 12, .inl q_reach)), (ra 17, .inl (kZ, 168, .inl q_isAt)), (ra 2, .inl (kI, 8, .inl q_told))]) (w1 := [(m0, .inr (11, oX11 ra y42))]) hP hD [6] [0, 1, 2, 3, 4, 5, 7] rfl rfl (by decide +kernel) (by decide +kernel) hk1 hFc hP1 hD1
      generalize H1 = H at hP hS ⊢
      have hP : va_P (dC, dI) vwCl [(ra 8, .inl (kI, 40, .inl q_from)), (ra 9, .inl (kI, 40, .inl q_to)), (ra 10, .inl (kI, 6, .inl q_goal)), (ra 11, .inl (kI, 1019, .inl q_now)), (ra 14, .inl (kI, 12, .inl q_reach)), (ra 17, .inl (kZ, 168, .inl q_isAt)), (ra 2, .inl (kI, 8, .inl q_told)), (m0, .inr (11, oX11 ra y42))] H := hP
      have hD : va_D A [(ra 8, .inl (kI, 40, .inl q_from)), (ra 9, .inl (kI, 40, .inl q_to)), (ra 10, .inl (kI, 6, .inl q_goal)), (ra 11, .inl (kI, 1019, .inl q_now)), (ra 14, .inl (kI, 12, .inl q_reach)), (ra 17, .inl (kZ, 168, .inl q_isAt)), (ra 2, .inl (kI, 8, .inl q_told)), (m0, .inr (11, oX11 ra y42))] := hD
      refine W.widen (k := 0) (n := 0) (Nat.le_of_ble_eq_true rfl) (Nat.le_of_ble_eq_true rfl) ?_
      obtain rfl : r40 = 0 := iv_one w41 (by decide)
      have hP9 := hP.sub (ws' := [(m0, .inr (11, oX11 ra y42)), (ra 2, .inl (kI, 8, .inl q_told)), (ra 8, .inl (kI, 40, .inl q_from)), (ra 9, .inl (kI, 40, .inl q_to)), (ra 10, .inl (kI, 6, .inl q_goal)), (ra 11, .inl (kI, 1019, .inl q_now)), (ra 14, .inl (kI, 12, .inl q_reach)), (ra 17, .inl (kZ, 168, .inl q_isAt))]) [7, 6, 0, 1, 2, 3, 4, 5] rfl
      have hD9 := hD.sub (ws' := [(m0, .inr (11, oX11 ra y42)), (ra 2, .inl (kI, 8, .inl q_told)), (ra 8, .inl (kI, 40, .inl q_from)), (ra 9, .inl (kI, 40, .inl q_to)), (ra 10, .inl (kI, 6, .inl q_goal)), (ra 11, .inl (kI, 1019, .inl q_now)), (ra 14, .inl (kI, 12, .inl q_reach)), (ra 17, .inl (kZ, 168, .inl q_isAt))]) [7, 6, 0, 1, 2, 3, 4, 5] (by decide +kernel) rfl
      exact W.iret (v := 0) hx hb hr (fun t ht hW => ⟨⟨0, (), rfl, trivial, y42, q_isAt, hq43, by rw [ht]; exact hP9, hD9⟩, hS.F ht⟩) hS.2.2 dX11_hop_104
    · have b45 : iv 0 0 r12 := iv_eqL c14 (iv_k (by decide) (by decide) : iv 0 0 0)
      exact hJ20 (upd x0 0 0) _ _ _ ((fI_u hX (k := 0) ((iv_w (iv_k (by decide) (by decide) : iv 0 0 0) (by decide) (by decide))))) ((iv_k (by decide) (by decide) : iv 0 0 0)) (hP.sub [6, 7, 0, 1, 2, 3, 4, 5] rfl) (hD.sub [6, 7, 0, 1, 2, 3, 4, 5] (by decide +kernel) rfl) hS (lv_sub hl [0, 1, 2, 3] rfl)
def rm_s11_sure : Room := { frames := 3, cells := 0, slots := 0, locals := 69 }
set_option maxHeartbeats 4000000 in
set_option maxRecDepth 100000 in
theorem s11_sure (l : Launch) (dC : Nat → ClassId) (dI : Nat → Nat → Nat) (kB kI kJ kZ kC kS : ClassId) (sz : Nat) (m0 : Nat) (ra : Nat → Nat) (x0 : Nat → Int32) (q_told : Nat → Int32) (q_now : Nat → Int32) (q_met : Nat → Int64) (p0 : Int32) (p1 : Int32) (hX : fI lX11 hX11 x0) (hq_told : fI lTold hTold q_told) (hq_now : fI lNow hNow q_now) : Met l yX11_sure wsX11_sure rm_s11_sure (va_Pc [.ref m0, .int p0, .int p1] (fun U => U.heap.size = sz ∧ va_P (dC, dI) vwCl [(m0, .inr (11, oX11 ra x0)), (ra 2, .inl (kI, 8, .inl q_told)), (ra 11, .inl (kI, 1019, .inl q_now)), (ra 15, .inl (kJ, 24, .inr (.inl q_met)))] U.heap ∧ kE dC dI kB kI kJ kZ kC kS U ∧ va_D (fun _ => True) [(m0, .inr (11, oX11 ra x0)), (ra 2, .inl (kI, 8, .inl q_told)), (ra 11, .inl (kI, 1019, .inl q_now)), (ra 15, .inl (kJ, 24, .inr (.inl q_met)))])) (va_Ql (fun (r : Int64) (_ : Unit) => True) (fun _ t => ∃ (x0' : Nat → Int32) (q_met' : Nat → Int64), fI lX11 hX11 x0' ∧ va_P (dC, dI) vwCl [(m0, .inr (11, oX11 ra x0')), (ra 2, .inl (kI, 8, .inl q_told)), (ra 11, .inl (kI, 1019, .inl q_now)), (ra 15, .inl (kJ, 24, .inr (.inl q_met')))] t.heap ∧ va_D (va_A [(m0, .inr (11, oX11 ra x0)), (ra 2, .inl (kI, 8, .inl q_told)), (ra 11, .inl (kI, 1019, .inl q_now)), (ra 15, .inl (kJ, 24, .inr (.inl q_met)))] sz) [(m0, .inr (11, oX11 ra x0')), (ra 2, .inl (kI, 8, .inl q_told)), (ra 11, .inl (kI, 1019, .inl q_now)), (ra 15, .inl (kJ, 24, .inr (.inl q_met')))]) (va_A [(m0, .inr (11, oX11 ra x0)), (ra 2, .inl (kI, 8, .inl q_told)), (ra 11, .inl (kI, 1019, .inl q_now)), (ra 15, .inl (kJ, 24, .inr (.inl q_met)))] sz)) 0 0 (va_A [(m0, .inr (11, oX11 ra x0)), (ra 2, .inl (kI, 8, .inl q_told)), (ra 11, .inl (kI, 1019, .inl q_now)), (ra 15, .inl (kJ, 24, .inr (.inl q_met)))] sz) := by
  refine Met.ofW (cc := cX11_sure) (maxL := 4) (ret := (some .long)) (by decide) rfl ?_
  intro p e s m args0 below meth c s₁ B hml hv
  obtain ⟨hargs, hsz, hP, hE, hD0⟩ := hv
  have hx := B.exec
  have hb := B.bytes
  have hr := B.returns
  have hts := atoms_spec (ws := wsX11_sure) B.pre
  have hown : s.vm.findClass RX11 = some m.cls := findClass_of_methodNamed B.named
  have hlocks := B.notSynchronized
  have hK := hE.1
  have hin11 : ∀ w ∈ wsX110, w ∈ wsX11_sure := fun _ h9 => List.mem_cons_of_mem _ (List.mem_append_right _ h9)
  have hw_0 := hts (.fieldLink RX11 142 "PathProberModel" "code" "I") (List.mem_of_getElem? (i := 1) (by decide +kernel))
  have hw_1 := hts (.fieldLink RX11 60 "PathProberModel" "now" "[I") (List.mem_of_getElem? (i := 3) (by decide +kernel))
  have hw_2 := hts (.constantLong RX11 320 (1000000000000)) (List.mem_of_getElem? (i := 2) (by decide +kernel))
  subst hsz
  have hD := hD0.self (sz := s.heap.size)
  generalize hAe : va_A [(m0, .inr (11, oX11 ra x0)), (ra 2, .inl (kI, 8, .inl q_told)), (ra 11, .inl (kI, 1019, .inl q_now)), (ra 15, .inl (kJ, 24, .inr (.inl q_met)))] s.heap.size = A at hD ⊢
  have hA : ∀ q : Nat, s.heap.size ≤ q → A q := fun q h => by rw [← hAe]; exact Or.inr h
  have hS : va_S A s.heap s.heap [] := va_S.rf
  have hP : va_P (dC, dI) vwCl [(m0, .inr (11, oX11 ra x0)), (ra 2, .inl (kI, 8, .inl q_told)), (ra 11, .inl (kI, 1019, .inl q_now)), (ra 15, .inl (kJ, 24, .inr (.inl q_met)))] s.heap := hP
  have hl := lv_entry ([.ref m0, .int p0, .int p1]) (n := 4) (Nat.le_of_ble_eq_true rfl)
  have hla : entryFrame m args0 4 = entryFrame m ([.ref m0, .int p0, .int p1] : List Value).toArray 4 := by rw [hargs]
  rw [hla, lg_entry_eq]
  generalize (lg_sl ([.ref m0, .int p0, .int p1]) ++ List.replicate (4 - (lg_sl ([.ref m0, .int p0, .int p1])).length) Slot.unset).toArray = ls at hl ⊢
  have hl : lv_has ls 4 [(0, .ref m0), (1, .int p0), (2, .int p1)] := hl
  have hJ20 : ∀ (y20_0 : Nat → Int32) (H : Heap) (locs : List Loc) (ls : Array Slot), fI lX11 hX11 y20_0 → iv 0 0 (y20_0 0) → va_P (dC, dI) vwCl [(m0, .inr (11, oX11 ra y20_0)), (ra 2, .inl (kI, 8, .inl q_told)), (ra 11, .inl (kI, 1019, .inl q_now)), (ra 15, .inl (kJ, 24, .inr (.inl q_met)))] H → va_D A [(m0, .inr (11, oX11 ra y20_0)), (ra 2, .inl (kI, 8, .inl q_told)), (ra 11, .inl (kI, 1019, .inl q_now)), (ra 15, .inl (kJ, 24, .inr (.inl q_met)))] → va_S A s.heap H locs → lv_has ls 4 [(0, .ref m0), (1, .int p0), (2, .int p1)] → W p l e (headSpec wsX11_sure rm_s11_sure).room s m args0 below meth c H locs (0) (0) (MQ below (va_Ql (fun (r : Int64) (_ : Unit) => True) (fun _ t => ∃ (x0' : Nat → Int32) (q_met' : Nat → Int64), fI lX11 hX11 x0' ∧ va_P (dC, dI) vwCl [(m0, .inr (11, oX11 ra x0')), (ra 2, .inl (kI, 8, .inl q_told)), (ra 11, .inl (kI, 1019, .inl q_now)), (ra 15, .inl (kJ, 24, .inr (.inl q_met')))] t.heap ∧ va_D A [(m0, .inr (11, oX11 ra x0')), (ra 2, .inl (kI, 8, .inl q_told)), (ra 11, .inl (kI, 1019, .inl q_now)), (ra 15, .inl (kJ, 24, .inr (.inl q_met')))]) A) args0 s 0 0 A) (F0 m 20 ls []) := by
    intro y20_0 H locs ls hI20_0 h20_2 hP hD hS hl
    refine lv_aload_n hx hb dX11_sure_20 rfl (lv_at hl 0 rfl) ?_
    refine lv_iconst (v := 1) hx hb dX11_sure_21 (by decide) ?_
    have hPc := hP.sub (ws' := [(m0, .inr (11, oX11 ra y20_0))]) [0] rfl
    have hDc := hD.sub (ws' := [(m0, .inr (11, oX11 ra y20_0))]) [0] (by decide) rfl
    have hFc := va_free (wc := [(m0, .inr (11, oX11 ra y20_0))]) hD hS hA [0] rfl
    refine va_calli (va_runV (As := [.int 1]) (rest := []) ⟨hx, hb, hml, hown, hts⟩ (s11_fail l dC dI kB kI kJ kZ kC kS H.size m0 ra y20_0 1 (hI20_0)) (cwV 1 hts gX11_sure_X11_fail rfl rfl rfl (by decide +kernel) ⟨Nat.le_of_ble_eq_true rfl, Nat.le_of_ble_eq_true rfl⟩) ⟨fun a U g mk q => by obtain ⟨q0, q1, qP, qE, qD⟩ := q; exact ⟨q0, q1, qP, kE_call qE, qD⟩, va_recv hK hP (ci := 11) (q0 := 0) rfl rfl, fun U hU hW => ⟨rfl, by rw [hU], by rw [hU]; exact hPc, kE_warm hW hE, hDc.weaken (fun _ _ _ _ => trivial)⟩⟩ rfl rfl hl.1 rfl (lv_room (Nat.le_of_ble_eq_true rfl)) dX11_sure_22 ⟨Nat.le_of_ble_eq_true rfl, Nat.le_of_ble_eq_true rfl⟩) hS (fun q _ h => hFc q h) hFc (fun r1 u t H1 locs ht hvm w2 hB hz1 hk1 hS => ?_)
    obtain ⟨y3, hq4, hq5, hP1, hD1⟩ := hB
    rw [ht] at hP1
    try dsimp only at w2
    obtain ⟨hP, hD⟩ := va_join (wr := [(ra 2, .inl (kI, 8, .inl q_told)), (ra 11, .inl (kI, 1019, .inl q_now)), (ra 15, .inl (kJ, 24, .inr (.inl q_met)))]) (w1 := [(m0, .inr (11, oX11 ra y3))]) hP hD [0] [1, 2, 3] rfl rfl (by decide) (by decide) hk1 hFc hP1 hD1
    generalize H1 = H at hP hS ⊢
    have hP : va_P (dC, dI) vwCl [(ra 2, .inl (kI, 8, .inl q_told)), (ra 11, .inl (kI, 1019, .inl q_now)), (ra 15, .inl (kJ, 24, .inr (.inl q_met))), (m0, .inr (11, oX11 ra y3))] H := hP
    have hD : va_D A [(ra 2, .inl (kI, 8, .inl q_told)), (ra 11, .inl (kI, 1019, .inl q_now)), (ra 15, .inl (kJ, 24, .inr (.inl q_met))), (m0, .inr (11, oX11 ra y3))] := hD
    refine W.widen (k := 0) (n := 0) (Nat.le_of_ble_eq_true rfl) (Nat.le_of_ble_eq_true rfl) ?_
    obtain rfl : r1 = 0 := iv_one w2 (by decide)
    refine lv_i2l (v := 0) hx hb dX11_sure_25 (by decide) ?_
    have hP9 := hP.sub (ws' := [(m0, .inr (11, oX11 ra y3)), (ra 2, .inl (kI, 8, .inl q_told)), (ra 11, .inl (kI, 1019, .inl q_now)), (ra 15, .inl (kJ, 24, .inr (.inl q_met)))]) [3, 0, 1, 2] rfl
    have hD9 := hD.sub (ws' := [(m0, .inr (11, oX11 ra y3)), (ra 2, .inl (kI, 8, .inl q_told)), (ra 11, .inl (kI, 1019, .inl q_now)), (ra 15, .inl (kJ, 24, .inr (.inl q_met)))]) [3, 0, 1, 2] (by decide) rfl
    exact W.lret (v := 0) hx hb hr (fun t ht hW => ⟨⟨0, (), rfl, trivial, y3, q_met, hq4, by rw [ht]; exact hP9, hD9⟩, hS.F ht⟩) hS.2.2 dX11_sure_26
  refine lv_aload_n hx hb dX11_sure_0 rfl (lv_at hl 0 rfl) ?_
  refine lv_iconst (v := 0) hx hb dX11_sure_1 (by decide) ?_
  refine va_put (D := (dC, dI)) (ci := 11) (v := .int 0) (ty := .int) (C := RX11) (T := TX11) (N := 61) hx hb hts hin11 tyX11 tyX11_ok nmX11 hown hK hP hD hS 0 rfl rfl 2 (by decide) hw_0 (fun _ h9 => h9) rfl (by decide +kernel) rfl rfl (Nat.le_of_ble_eq_true rfl) dX11_sure_2 (fun H locs hP hD hS => ?_)
  have hP : va_P (dC, dI) vwCl [(m0, .inr (11, oX11 ra (upd x0 0 0))), (ra 2, .inl (kI, 8, .inl q_told)), (ra 11, .inl (kI, 1019, .inl q_now)), (ra 15, .inl (kJ, 24, .inr (.inl q_met)))] H := hP
  have hD : va_D A [(m0, .inr (11, oX11 ra (upd x0 0 0))), (ra 2, .inl (kI, 8, .inl q_told)), (ra 11, .inl (kI, 1019, .inl q_now)), (ra 15, .inl (kJ, 24, .inr (.inl q_met)))] := hD
  refine lv_aload_n hx hb dX11_sure_5 rfl (lv_at hl 0 rfl) ?_
  refine lv_iload_n hx hb dX11_sure_6 rfl (lv_at hl 1 rfl) ?_
  have hPc := hP.sub (ws' := [(m0, .inr (11, oX11 ra (upd x0 0 0))), (ra 2, .inl (kI, 8, .inl q_told))]) [0, 1] rfl
  have hDc := hD.sub (ws' := [(m0, .inr (11, oX11 ra (upd x0 0 0))), (ra 2, .inl (kI, 8, .inl q_told))]) [0, 1] (by decide) rfl
  have hFc := va_free (wc := [(m0, .inr (11, oX11 ra (upd x0 0 0))), (ra 2, .inl (kI, 8, .inl q_told))]) hD hS hA [0, 1] rfl
  refine va_calli (va_runV (As := [.int p0]) (rest := []) ⟨hx, hb, hml, hown, hts⟩ (s11_isGoal l dC dI kB kI kJ kZ kC kS H.size m0 ra (upd x0 0 0) q_told p0 ((fI_u hX (k := 0) ((iv_w (iv_k (by decide) (by decide) : iv 0 0 0) (by decide) (by decide))))) (hq_told)) (cwV 1 hts gX11_sure_X11_isGoal rfl rfl rfl (by decide +kernel) ⟨Nat.le_of_ble_eq_true rfl, Nat.le_of_ble_eq_true rfl⟩) ⟨fun a U g mk q => by obtain ⟨q0, q1, qP, qE, qD⟩ := q; exact ⟨q0, q1, qP, kE_call qE, qD⟩, va_recv hK hP (ci := 11) (q0 := 0) rfl rfl, fun U hU hW => ⟨rfl, by rw [hU], by rw [hU]; exact hPc, kE_warm hW hE, hDc.weaken (fun _ _ _ _ => trivial)⟩⟩ rfl rfl hl.1 rfl (lv_room (Nat.le_of_ble_eq_true rfl)) dX11_sure_7 ⟨Nat.le_of_ble_eq_true rfl, Nat.le_of_ble_eq_true rfl⟩) hS (fun q _ h => hFc q h) hFc (fun r6 u t H1 locs ht hvm w7 hB hz1 hk1 hS => ?_)
  obtain ⟨hP1, hD1⟩ := hB
  rw [ht] at hP1
  try dsimp only at w7
  obtain ⟨hP, hD⟩ := va_join (wr := [(ra 11, .inl (kI, 1019, .inl q_now)), (ra 15, .inl (kJ, 24, .inr (.inl q_met)))]) (w1 := [(m0, .inr (11, oX11 ra (upd x0 0 0))), (ra 2, .inl (kI, 8, .inl q_told))]) hP hD [0, 1] [2, 3] rfl rfl (by decide) (by decide) hk1 hFc hP1 hD1
  generalize H1 = H at hP hS ⊢
  have hP : va_P (dC, dI) vwCl [(ra 11, .inl (kI, 1019, .inl q_now)), (ra 15, .inl (kJ, 24, .inr (.inl q_met))), (m0, .inr (11, oX11 ra (upd x0 0 0))), (ra 2, .inl (kI, 8, .inl q_told))] H := hP
  have hD : va_D A [(ra 11, .inl (kI, 1019, .inl q_now)), (ra 15, .inl (kJ, 24, .inr (.inl q_met))), (m0, .inr (11, oX11 ra (upd x0 0 0))), (ra 2, .inl (kI, 8, .inl q_told))] := hD
  refine W.widen (k := 0) (n := 0) (Nat.le_of_ble_eq_true rfl) (Nat.le_of_ble_eq_true rfl) ?_
  refine lv_if_eq (tgt := 20) hx hb dX11_sure_10 (by decide) (fun c8 => ?_) (fun c8 => ?_)
  · have b9 : iv 0 0 r6 := iv_eqL c8 (iv_k (by decide) (by decide) : iv 0 0 0)
    exact hJ20 (upd x0 0 0) _ _ _ ((fI_u hX (k := 0) ((iv_w (iv_k (by decide) (by decide) : iv 0 0 0) (by decide) (by decide))))) ((iv_k (by decide) (by decide) : iv 0 0 0)) (hP.sub [2, 3, 0, 1] rfl) (hD.sub [2, 3, 0, 1] (by decide) rfl) hS (lv_sub hl [0, 1, 2] rfl)
  · have b10 : iv 1 1 r6 := iv_neLo c8 w7.1 (iv_k (by decide) (by decide) : iv 0 0 0) (by decide) (by decide)
    have b11 : iv 0 2 p0 := (w7.2).resolve_left (iv_ne b10 (iv_k (by decide) (by decide) : iv 0 0 0) (by decide))
    refine lv_iload_n hx hb dX11_sure_13 rfl (lv_at hl 2 rfl) ?_
    have hPc := hP.sub (ws' := []) [] rfl
    have hDc := hD.sub (ws' := []) [] (by decide) rfl
    have hFc := va_free (wc := []) hD hS hA [] rfl
    refine va_calli (va_runS (As := [.int p1]) (rest := []) ⟨hx, hb, hml, hown, hts⟩ (s11_isHop l dC dI kB kI kJ kZ kC kS H.size p1) (va_cwS 1 hts gX11_sure_X11_isHop rfl rfl rfl (by decide +kernel) ⟨Nat.le_of_ble_eq_true rfl, Nat.le_of_ble_eq_true rfl⟩) ⟨fun a U g mk q => by obtain ⟨q0, q1, qP, qE, qD⟩ := q; exact ⟨q0, q1, qP, kE_call qE, qD⟩, fun U hU hW => ⟨rfl, by rw [hU], by rw [hU]; exact hPc, kE_warm hW hE, hDc.weaken (fun _ _ _ _ => trivial)⟩⟩ rfl rfl hl.1 rfl (lv_room (Nat.le_of_ble_eq_true rfl)) dX11_sure_14 ⟨Nat.le_of_ble_eq_true rfl, Nat.le_of_ble_eq_true rfl⟩) hS (fun q _ h => hFc q h) hFc (fun r12 u t H1 locs ht hvm w13 hB hz1 hk1 hS => ?_)
    obtain ⟨hP1, hD1⟩ := hB
    rw [ht] at hP1
    try dsimp only at w13
    obtain ⟨hP, hD⟩ := va_join (wr := [(ra 11, .inl (kI, 1019, .inl q_now)), (ra 15, .inl (kJ, 24, .inr (.inl q_met))), (m0, .inr (11, oX11 ra (upd x0 0 0))), (ra 2, .inl (kI, 8, .inl q_told))]) (w1 := []) hP hD [] [0, 1, 2, 3] rfl rfl (by decide) (by decide) hk1 hFc hP1 hD1
    generalize H1 = H at hP hS ⊢
    have hP : va_P (dC, dI) vwCl [(ra 11, .inl (kI, 1019, .inl q_now)), (ra 15, .inl (kJ, 24, .inr (.inl q_met))), (m0, .inr (11, oX11 ra (upd x0 0 0))), (ra 2, .inl (kI, 8, .inl q_told))] H := hP
    have hD : va_D A [(ra 11, .inl (kI, 1019, .inl q_now)), (ra 15, .inl (kJ, 24, .inr (.inl q_met))), (m0, .inr (11, oX11 ra (upd x0 0 0))), (ra 2, .inl (kI, 8, .inl q_told))] := hD
    refine W.widen (k := 0) (n := 0) (Nat.le_of_ble_eq_true rfl) (Nat.le_of_ble_eq_true rfl) ?_
    refine lv_if_ne (tgt := 27) hx hb dX11_sure_17 (by decide) (fun c14 => ?_) (fun c14 => ?_)
    · have b15 : iv 1 1 r12 := iv_neLo c14 w13.1 (iv_k (by decide) (by decide) : iv 0 0 0) (by decide) (by decide)
      have b16 : iv 1 10 p1 := (w13.2).resolve_left (iv_ne b15 (iv_k (by decide) (by decide) : iv 0 0 0) (by decide))
      refine lv_aload_n hx hb dX11_sure_27 rfl (lv_at hl 0 rfl) ?_
      refine lv_iload_n hx hb dX11_sure_28 rfl (lv_at hl 1 rfl) ?_
      refine lv_iload_n hx hb dX11_sure_29 rfl (lv_at hl 2 rfl) ?_
      have hPc := hP.sub (ws' := [(m0, .inr (11, oX11 ra (upd x0 0 0))), (ra 11, .inl (kI, 1019, .inl q_now))]) [2, 0] rfl
      have hDc := hD.sub (ws' := [(m0, .inr (11, oX11 ra (upd x0 0 0))), (ra 11, .inl (kI, 1019, .inl q_now))]) [2, 0] (by decide) rfl
      have hFc := va_free (wc := [(m0, .inr (11, oX11 ra (upd x0 0 0))), (ra 11, .inl (kI, 1019, .inl q_now))]) hD hS hA [2, 0] rfl
      refine va_calli (va_runV (As := [.int p0, .int p1]) (rest := []) ⟨hx, hb, hml, hown, hts⟩ (s11_addresses l dC dI kB kI kJ kZ kC kS H.size m0 ra (upd x0 0 0) q_now p0 p1 ((fI_u hX (k := 0) ((iv_w (iv_k (by decide) (by decide) : iv 0 0 0) (by decide) (by decide))))) (hq_now) (b11) (b16)) (cwV 2 hts gX11_sure_X11_addresses rfl rfl rfl (by decide +kernel) ⟨Nat.le_of_ble_eq_true rfl, Nat.le_of_ble_eq_true rfl⟩) ⟨fun a U g mk q => by obtain ⟨q0, q1, qP, qE, qD⟩ := q; exact ⟨q0, q1, qP, kE_call qE, qD⟩, va_recv hK hP (ci := 11) (q0 := 2) rfl rfl, fun U hU hW => ⟨rfl, by rw [hU], by rw [hU]; exact hPc, kE_warm hW hE, hDc.weaken (fun _ _ _ _ => trivial)⟩⟩ rfl rfl hl.1 rfl (lv_room (Nat.le_of_ble_eq_true rfl)) dX11_sure_30 ⟨Nat.le_of_ble_eq_true rfl, Nat.le_of_ble_eq_true rfl⟩) hS (fun q _ h => hFc q h) hFc (fun r17 u t H1 locs ht hvm w18 hB hz1 hk1 hS => ?_)
      obtain ⟨hP1, hD1⟩ := hB
      rw [ht] at hP1
      try dsimp only at w18
      obtain ⟨hP, hD⟩ := va_join (wr := [(ra 15, .inl (kJ, 24, .inr (.inl q_met))), (ra 2, .inl (kI, 8, .inl q_told))]) (w1 := [(m0, .inr (11, oX11 ra (upd x0 0 0))), (ra 11, .inl (kI, 1019, .inl q_now))]) hP hD [2, 0] [1, 3] rfl rfl (by decide) (by decide) hk1 hFc hP1 hD1
      generalize H1 = H at hP hS ⊢
      have hP : va_P (dC, dI) vwCl [(ra 15, .inl (kJ, 24, .inr (.inl q_met))), (ra 2, .inl (kI, 8, .inl q_told)), (m0, .inr (11, oX11 ra (upd x0 0 0))), (ra 11, .inl (kI, 1019, .inl q_now))] H := hP
      have hD : va_D A [(ra 15, .inl (kJ, 24, .inr (.inl q_met))), (ra 2, .inl (kI, 8, .inl q_told)), (m0, .inr (11, oX11 ra (upd x0 0 0))), (ra 11, .inl (kI, 1019, .inl q_now))] := hD
      refine W.widen (k := 0) (n := 0) (Nat.le_of_ble_eq_true rfl) (Nat.le_of_ble_eq_true rfl) ?_
      have hPc := hP.sub (ws' := []) [] rfl
      have hDc := hD.sub (ws' := []) [] (by decide) rfl
      have hFc := va_free (wc := []) hD hS hA [] rfl
      refine va_calli (va_runS (As := [.int r17]) (rest := []) ⟨hx, hb, hml, hown, hts⟩ (sJ_bitCount21 l dC dI kB kI kJ kZ kC kS H.size r17 (w18)) (va_cwS 1 hts gX11_sure_J6_bitCount_0f7a4 rfl rfl rfl (by decide +kernel) ⟨Nat.le_of_ble_eq_true rfl, Nat.le_of_ble_eq_true rfl⟩) ⟨fun a U g mk q => by obtain ⟨q0, q1, qP, qE, qD⟩ := q; exact ⟨q0, q1, qP, kE_call qE, qD⟩, fun U hU hW => ⟨rfl, by rw [hU], by rw [hU]; exact hPc, kE_warm hW hE, hDc.weaken (fun _ _ _ _ => trivial)⟩⟩ rfl rfl hl.1 rfl (lv_room (Nat.le_of_ble_eq_true rfl)) dX11_sure_33 ⟨Nat.le_of_ble_eq_true rfl, Nat.le_of_ble_eq_true rfl⟩) hS (fun q _ h => hFc q h) hFc (fun r19 u t H1 locs ht hvm w20 hB hz1 hk1 hS => ?_)
      obtain ⟨hP1, hD1⟩ := hB
      rw [ht] at hP1
      try dsimp only at w20
      obtain ⟨hP, hD⟩ := va_join (wr := [(ra 15, .inl (kJ, 24, .inr (.inl q_met))), (ra 2, .inl (kI, 8, .inl q_told)), (m0, .inr (11, oX11 ra (upd x0 0 0))), (ra 11, .inl (kI, 1019, .inl q_now))]) (w1 := []) hP hD [] [0, 1, 2, 3] rfl rfl (by decide) (by decide) hk1 hFc hP1 hD1
      generalize H1 = H at hP hS ⊢
      have hP : va_P (dC, dI) vwCl [(ra 15, .inl (kJ, 24, .inr (.inl q_met))), (ra 2, .inl (kI, 8, .inl q_told)), (m0, .inr (11, oX11 ra (upd x0 0 0))), (ra 11, .inl (kI, 1019, .inl q_now))] H := hP
      have hD : va_D A [(ra 15, .inl (kJ, 24, .inr (.inl q_met))), (ra 2, .inl (kI, 8, .inl q_told)), (m0, .inr (11, oX11 ra (upd x0 0 0))), (ra 11, .inl (kI, 1019, .inl q_now))] := hD
      refine W.widen (k := 0) (n := 0) (Nat.le_of_ble_eq_true rfl) (Nat.le_of_ble_eq_true rfl) ?_
      refine lv_istore_n (lv' := [(3, .int r19), (0, .ref m0), (1, .int p0), (2, .int p1)]) hx hb dX11_sure_36 rfl hl (by decide) rfl (fun ls hl => ?_)
      refine lv_iload_n hx hb dX11_sure_37 rfl (lv_at hl 0 rfl) ?_
      refine lv_if_ne (tgt := 47) hx hb dX11_sure_38 (by decide) (fun c21 => ?_) (fun c21 => ?_)
      · have b22 : iv 1 21 r19 := iv_neLo c21 w20 (iv_k (by decide) (by decide) : iv 0 0 0) (by decide) (by decide)
        refine lv_aload_n hx hb dX11_sure_47 rfl (lv_at hl 1 rfl) ?_
        refine lv_aload_n hx hb dX11_sure_48 rfl (lv_at hl 1 rfl) ?_
        refine va_get (D := (dC, dI)) (ci := 11) (v := .ref (ra 11)) (C := RX11) (T := TX11) (N := 61) hx hb hts hin11 hown hK hP 2 rfl rfl 12 (by decide) hw_1 (fun _ h9 => h9) rfl dX11_sure_49 ?_
        refine lv_iload_n hx hb dX11_sure_52 rfl (lv_at hl 2 rfl) ?_
        refine lv_iload_n hx hb dX11_sure_53 rfl (lv_at hl 3 rfl) ?_
        have hPc := hP.sub (ws' := []) [] rfl
        have hDc := hD.sub (ws' := []) [] (by decide) rfl
        have hFc := va_free (wc := []) hD hS hA [] rfl
        refine va_calli (va_runS (As := [.int p0, .int p1]) (rest := [.ref (ra 11), .ref m0]) ⟨hx, hb, hml, hown, hts⟩ (s11_sentAt l dC dI kB kI kJ kZ kC kS H.size p0 p1 (b11) (b16)) (va_cwS 2 hts gX11_sure_X11_sentAt rfl rfl rfl (by decide +kernel) ⟨Nat.le_of_ble_eq_true rfl, Nat.le_of_ble_eq_true rfl⟩) ⟨fun a U g mk q => by obtain ⟨q0, q1, qP, qE, qD⟩ := q; exact ⟨q0, q1, qP, kE_call qE, qD⟩, fun U hU hW => ⟨rfl, by rw [hU], by rw [hU]; exact hPc, kE_warm hW hE, hDc.weaken (fun _ _ _ _ => trivial)⟩⟩ rfl rfl hl.1 rfl (lv_room (Nat.le_of_ble_eq_true rfl)) dX11_sure_54 ⟨Nat.le_of_ble_eq_true rfl, Nat.le_of_ble_eq_true rfl⟩) hS (fun q _ h => hFc q h) hFc (fun r23 u t H1 locs ht hvm w24 hB hz1 hk1 hS => ?_)
        obtain ⟨hP1, hD1⟩ := hB
        rw [ht] at hP1
        try dsimp only at w24
        obtain ⟨hP, hD⟩ := va_join (wr := [(ra 15, .inl (kJ, 24, .inr (.inl q_met))), (ra 2, .inl (kI, 8, .inl q_told)), (m0, .inr (11, oX11 ra (upd x0 0 0))), (ra 11, .inl (kI, 1019, .inl q_now))]) (w1 := []) hP hD [] [0, 1, 2, 3] rfl rfl (by decide) (by decide) hk1 hFc hP1 hD1
        generalize H1 = H at hP hS ⊢
        have hP : va_P (dC, dI) vwCl [(ra 15, .inl (kJ, 24, .inr (.inl q_met))), (ra 2, .inl (kI, 8, .inl q_told)), (m0, .inr (11, oX11 ra (upd x0 0 0))), (ra 11, .inl (kI, 1019, .inl q_now))] H := hP
        have hD : va_D A [(ra 15, .inl (kJ, 24, .inr (.inl q_met))), (ra 2, .inl (kI, 8, .inl q_told)), (m0, .inr (11, oX11 ra (upd x0 0 0))), (ra 11, .inl (kI, 1019, .inl q_now))] := hD
        refine W.widen (k := 0) (n := 0) (Nat.le_of_ble_eq_true rfl) (Nat.le_of_ble_eq_true rfl) ?_
        refine va_iald hx hb hK hP 3 1 rfl rfl (iv_in w24 (by decide) (by decide)) dX11_sure_57 ?_
        refine lv_topi (fun z25 _ => ?_)
        refine lv_iload_n hx hb dX11_sure_58 rfl (lv_at hl 0 rfl) ?_
        refine lv_iconst (v := 1) hx hb dX11_sure_59 (by decide) ?_
        refine lv_iadd hx hb dX11_sure_60 ?_
        refine iv_top (a := 2) (b := 22) (iv_add b22 (iv_k (by decide) (by decide) : iv 1 1 1) (by decide) (by decide) (by decide) (by decide)) (fun z26 b27 => ?_)
        have hPc := hP.sub (ws' := [(m0, .inr (11, oX11 ra (upd x0 0 0))), (ra 15, .inl (kJ, 24, .inr (.inl q_met)))]) [2, 0] rfl
        have hDc := hD.sub (ws' := [(m0, .inr (11, oX11 ra (upd x0 0 0))), (ra 15, .inl (kJ, 24, .inr (.inl q_met)))]) [2, 0] (by decide) rfl
        have hFc := va_free (wc := [(m0, .inr (11, oX11 ra (upd x0 0 0))), (ra 15, .inl (kJ, 24, .inr (.inl q_met)))]) hD hS hA [2, 0] rfl
        refine va_calll (va_runV (As := [.int z25, .int z26]) (rest := []) ⟨hx, hb, hml, hown, hts⟩ (s11_missingOf l dC dI kB kI kJ kZ kC kS H.size m0 ra (upd x0 0 0) q_met z25 z26 ((fI_u hX (k := 0) ((iv_w (iv_k (by decide) (by decide) : iv 0 0 0) (by decide) (by decide))))) ((iv_w b27 (by decide) (by decide)))) (cwV 2 hts gX11_sure_X11_missingOf rfl rfl rfl (by decide +kernel) ⟨Nat.le_of_ble_eq_true rfl, Nat.le_of_ble_eq_true rfl⟩) ⟨fun a U g mk q => by obtain ⟨q0, q1, qP, qE, qD⟩ := q; exact ⟨q0, q1, qP, kE_call qE, qD⟩, va_recv hK hP (ci := 11) (q0 := 2) rfl rfl, fun U hU hW => ⟨rfl, by rw [hU], by rw [hU]; exact hPc, kE_warm hW hE, hDc.weaken (fun _ _ _ _ => trivial)⟩⟩ rfl rfl hl.1 rfl (lv_room (Nat.le_of_ble_eq_true rfl)) dX11_sure_61 ⟨Nat.le_of_ble_eq_true rfl, Nat.le_of_ble_eq_true rfl⟩) hS (fun q _ h => hFc q h) hFc (fun r28 u t H1 locs ht hvm w29 hB hz1 hk1 hS => ?_)
        obtain ⟨f30, hP1, hD1⟩ := hB
        rw [ht] at hP1
        try dsimp only at w29
        obtain ⟨hP, hD⟩ := va_join (wr := [(ra 2, .inl (kI, 8, .inl q_told)), (ra 11, .inl (kI, 1019, .inl q_now))]) (w1 := [(m0, .inr (11, oX11 ra (upd x0 0 0))), (ra 15, .inl (kJ, 24, .inr (.inl f30)))]) hP hD [2, 0] [1, 3] rfl rfl (by decide) (by decide) hk1 hFc hP1 hD1
        generalize H1 = H at hP hS ⊢
        have hP : va_P (dC, dI) vwCl [(ra 2, .inl (kI, 8, .inl q_told)), (ra 11, .inl (kI, 1019, .inl q_now)), (m0, .inr (11, oX11 ra (upd x0 0 0))), (ra 15, .inl (kJ, 24, .inr (.inl f30)))] H := hP
        have hD : va_D A [(ra 2, .inl (kI, 8, .inl q_told)), (ra 11, .inl (kI, 1019, .inl q_now)), (m0, .inr (11, oX11 ra (upd x0 0 0))), (ra 15, .inl (kJ, 24, .inr (.inl f30)))] := hD
        refine W.widen (k := 0) (n := 0) (Nat.le_of_ble_eq_true rfl) (Nat.le_of_ble_eq_true rfl) ?_
        have hP9 := hP.sub (ws' := [(m0, .inr (11, oX11 ra (upd x0 0 0))), (ra 2, .inl (kI, 8, .inl q_told)), (ra 11, .inl (kI, 1019, .inl q_now)), (ra 15, .inl (kJ, 24, .inr (.inl f30)))]) [2, 0, 1, 3] rfl
        have hD9 := hD.sub (ws' := [(m0, .inr (11, oX11 ra (upd x0 0 0))), (ra 2, .inl (kI, 8, .inl q_told)), (ra 11, .inl (kI, 1019, .inl q_now)), (ra 15, .inl (kJ, 24, .inr (.inl f30)))]) [2, 0, 1, 3] (by decide) rfl
        exact W.lret (v := r28) hx hb hr (fun t ht hW => ⟨⟨r28, (), rfl, trivial, upd x0 0 0, f30, (fI_u hX (k := 0) ((iv_w (iv_k (by decide) (by decide) : iv 0 0 0) (by decide) (by decide)))), by rw [ht]; exact hP9, hD9⟩, hS.F ht⟩) hS.2.2 dX11_sure_64
      · have b31 : iv 0 0 r19 := iv_eqL c21 (iv_k (by decide) (by decide) : iv 0 0 0)
        refine lv_ldc2 hx hb hown hw_2 dX11_sure_41 ?_
        refine lv_goto (tgt := 64) hx hb dX11_sure_44 (by decide) ?_
        have hP9 := hP.sub (ws' := [(m0, .inr (11, oX11 ra (upd x0 0 0))), (ra 2, .inl (kI, 8, .inl q_told)), (ra 11, .inl (kI, 1019, .inl q_now)), (ra 15, .inl (kJ, 24, .inr (.inl q_met)))]) [2, 1, 3, 0] rfl
        have hD9 := hD.sub (ws' := [(m0, .inr (11, oX11 ra (upd x0 0 0))), (ra 2, .inl (kI, 8, .inl q_told)), (ra 11, .inl (kI, 1019, .inl q_now)), (ra 15, .inl (kJ, 24, .inr (.inl q_met)))]) [2, 1, 3, 0] (by decide) rfl
        exact W.lret (v := 1000000000000) hx hb hr (fun t ht hW => ⟨⟨1000000000000, (), rfl, trivial, upd x0 0 0, q_met, (fI_u hX (k := 0) ((iv_w (iv_k (by decide) (by decide) : iv 0 0 0) (by decide) (by decide)))), by rw [ht]; exact hP9, hD9⟩, hS.F ht⟩) hS.2.2 dX11_sure_64
    · have b32 : iv 0 0 r12 := iv_eqL c14 (iv_k (by decide) (by decide) : iv 0 0 0)
      exact hJ20 (upd x0 0 0) _ _ _ ((fI_u hX (k := 0) ((iv_w (iv_k (by decide) (by decide) : iv 0 0 0) (by decide) (by decide))))) ((iv_k (by decide) (by decide) : iv 0 0 0)) (hP.sub [2, 3, 0, 1] rfl) (hD.sub [2, 3, 0, 1] (by decide) rfl) hS (lv_sub hl [0, 1, 2] rfl)
def rm_s11_missing : Room := { frames := 1, cells := 0, slots := 0, locals := 26 }
set_option maxHeartbeats 4000000 in
set_option maxRecDepth 100000 in
theorem s11_missing (l : Launch) (dC : Nat → ClassId) (dI : Nat → Nat → Nat) (kB kI kJ kZ kC kS : ClassId) (sz : Nat) (m0 : Nat) (ra : Nat → Nat) (x0 : Nat → Int32) (q_met : Nat → Int64) (p0 : Int32) (p1 : Int32) (hX : fI lX11 hX11 x0) : Met l yX11_missing wsX11_missing rm_s11_missing (va_Pc [.ref m0, .int p0, .int p1] (fun U => U.heap.size = sz ∧ va_P (dC, dI) vwCl [(m0, .inr (11, oX11 ra x0)), (ra 15, .inl (kJ, 24, .inr (.inl q_met)))] U.heap ∧ kE dC dI kB kI kJ kZ kC kS U ∧ va_D (fun _ => True) [(m0, .inr (11, oX11 ra x0)), (ra 15, .inl (kJ, 24, .inr (.inl q_met)))])) (va_Ql (fun (r : Int64) (_ : Unit) => True) (fun _ t => ∃ (x0' : Nat → Int32) (q_met' : Nat → Int64), fI lX11 hX11 x0' ∧ va_P (dC, dI) vwCl [(m0, .inr (11, oX11 ra x0')), (ra 15, .inl (kJ, 24, .inr (.inl q_met')))] t.heap ∧ va_D (va_A [(m0, .inr (11, oX11 ra x0)), (ra 15, .inl (kJ, 24, .inr (.inl q_met)))] sz) [(m0, .inr (11, oX11 ra x0')), (ra 15, .inl (kJ, 24, .inr (.inl q_met')))]) (va_A [(m0, .inr (11, oX11 ra x0)), (ra 15, .inl (kJ, 24, .inr (.inl q_met)))] sz)) 0 0 (va_A [(m0, .inr (11, oX11 ra x0)), (ra 15, .inl (kJ, 24, .inr (.inl q_met)))] sz) := by
  refine Met.ofW (cc := cX11_missing) (maxL := 3) (ret := (some .long)) (by decide) rfl ?_
  intro p e s m args0 below meth c s₁ B hml hv
  obtain ⟨hargs, hsz, hP, hE, hD0⟩ := hv
  have hx := B.exec
  have hb := B.bytes
  have hr := B.returns
  have hts := atoms_spec (ws := wsX11_missing) B.pre
  have hown : s.vm.findClass RX11 = some m.cls := findClass_of_methodNamed B.named
  have hlocks := B.notSynchronized
  have hK := hE.1
  have hin11 : ∀ w ∈ wsX110, w ∈ wsX11_missing := fun _ h9 => List.mem_cons_of_mem _ (List.mem_append_right _ h9)
  have hw_0 := hts (.fieldLink RX11 142 "PathProberModel" "code" "I") (List.mem_of_getElem? (i := 1) (by decide +kernel))
  subst hsz
  have hD := hD0.self (sz := s.heap.size)
  generalize hAe : va_A [(m0, .inr (11, oX11 ra x0)), (ra 15, .inl (kJ, 24, .inr (.inl q_met)))] s.heap.size = A at hD ⊢
  have hA : ∀ q : Nat, s.heap.size ≤ q → A q := fun q h => by rw [← hAe]; exact Or.inr h
  have hS : va_S A s.heap s.heap [] := va_S.rf
  have hP : va_P (dC, dI) vwCl [(m0, .inr (11, oX11 ra x0)), (ra 15, .inl (kJ, 24, .inr (.inl q_met)))] s.heap := hP
  have hl := lv_entry ([.ref m0, .int p0, .int p1]) (n := 3) (Nat.le_of_ble_eq_true rfl)
  have hla : entryFrame m args0 3 = entryFrame m ([.ref m0, .int p0, .int p1] : List Value).toArray 3 := by rw [hargs]
  rw [hla, lg_entry_eq]
  generalize (lg_sl ([.ref m0, .int p0, .int p1]) ++ List.replicate (3 - (lg_sl ([.ref m0, .int p0, .int p1])).length) Slot.unset).toArray = ls at hl ⊢
  have hl : lv_has ls 3 [(0, .ref m0), (1, .int p0), (2, .int p1)] := hl
  have hJ33 : ∀ (y33_0 : Nat → Int32) (H : Heap) (locs : List Loc) (ls : Array Slot), fI lX11 hX11 y33_0 → iv 0 0 (y33_0 0) → va_P (dC, dI) vwCl [(m0, .inr (11, oX11 ra y33_0)), (ra 15, .inl (kJ, 24, .inr (.inl q_met)))] H → va_D A [(m0, .inr (11, oX11 ra y33_0)), (ra 15, .inl (kJ, 24, .inr (.inl q_met)))] → va_S A s.heap H locs → lv_has ls 3 [(0, .ref m0), (1, .int p0), (2, .int p1)] → W p l e (headSpec wsX11_missing rm_s11_missing).room s m args0 below meth c H locs (0) (0) (MQ below (va_Ql (fun (r : Int64) (_ : Unit) => True) (fun _ t => ∃ (x0' : Nat → Int32) (q_met' : Nat → Int64), fI lX11 hX11 x0' ∧ va_P (dC, dI) vwCl [(m0, .inr (11, oX11 ra x0')), (ra 15, .inl (kJ, 24, .inr (.inl q_met')))] t.heap ∧ va_D A [(m0, .inr (11, oX11 ra x0')), (ra 15, .inl (kJ, 24, .inr (.inl q_met')))]) A) args0 s 0 0 A) (F0 m 33 ls []) := by
    intro y33_0 H locs ls hI33_0 h33_2 hP hD hS hl
    refine lv_aload_n hx hb dX11_missing_33 rfl (lv_at hl 0 rfl) ?_
    refine lv_iconst (v := 1) hx hb dX11_missing_34 (by decide) ?_
    have hPc := hP.sub (ws' := [(m0, .inr (11, oX11 ra y33_0))]) [0] rfl
    have hDc := hD.sub (ws' := [(m0, .inr (11, oX11 ra y33_0))]) [0] (by decide) rfl
    have hFc := va_free (wc := [(m0, .inr (11, oX11 ra y33_0))]) hD hS hA [0] rfl
    refine va_calli (va_runV (As := [.int 1]) (rest := []) ⟨hx, hb, hml, hown, hts⟩ (s11_fail l dC dI kB kI kJ kZ kC kS H.size m0 ra y33_0 1 (hI33_0)) (cwV 1 hts gX11_missing_X11_fail rfl rfl rfl (by decide +kernel) ⟨Nat.le_of_ble_eq_true rfl, Nat.le_of_ble_eq_true rfl⟩) ⟨fun a U g mk q => by obtain ⟨q0, q1, qP, qE, qD⟩ := q; exact ⟨q0, q1, qP, kE_call qE, qD⟩, va_recv hK hP (ci := 11) (q0 := 0) rfl rfl, fun U hU hW => ⟨rfl, by rw [hU], by rw [hU]; exact hPc, kE_warm hW hE, hDc.weaken (fun _ _ _ _ => trivial)⟩⟩ rfl rfl hl.1 rfl (lv_room (Nat.le_of_ble_eq_true rfl)) dX11_missing_35 ⟨Nat.le_of_ble_eq_true rfl, Nat.le_of_ble_eq_true rfl⟩) hS (fun q _ h => hFc q h) hFc (fun r1 u t H1 locs ht hvm w2 hB hz1 hk1 hS => ?_)
    obtain ⟨y3, hq4, hq5, hP1, hD1⟩ := hB
    rw [ht] at hP1
    try dsimp only at w2
    obtain ⟨hP, hD⟩ := va_join (wr := [(ra 15, .inl (kJ, 24, .inr (.inl q_met)))]) (w1 := [(m0, .inr (11, oX11 ra y3))]) hP hD [0] [1] rfl rfl (by decide) (by decide) hk1 hFc hP1 hD1
    generalize H1 = H at hP hS ⊢
    have hP : va_P (dC, dI) vwCl [(ra 15, .inl (kJ, 24, .inr (.inl q_met))), (m0, .inr (11, oX11 ra y3))] H := hP
    have hD : va_D A [(ra 15, .inl (kJ, 24, .inr (.inl q_met))), (m0, .inr (11, oX11 ra y3))] := hD
    refine W.widen (k := 0) (n := 0) (Nat.le_of_ble_eq_true rfl) (Nat.le_of_ble_eq_true rfl) ?_
    obtain rfl : r1 = 0 := iv_one w2 (by decide)
    refine lv_i2l (v := 0) hx hb dX11_missing_38 (by decide) ?_
    have hP9 := hP.sub (ws' := [(m0, .inr (11, oX11 ra y3)), (ra 15, .inl (kJ, 24, .inr (.inl q_met)))]) [1, 0] rfl
    have hD9 := hD.sub (ws' := [(m0, .inr (11, oX11 ra y3)), (ra 15, .inl (kJ, 24, .inr (.inl q_met)))]) [1, 0] (by decide) rfl
    exact W.lret (v := 0) hx hb hr (fun t ht hW => ⟨⟨0, (), rfl, trivial, y3, q_met, hq4, by rw [ht]; exact hP9, hD9⟩, hS.F ht⟩) hS.2.2 dX11_missing_39
  refine lv_aload_n hx hb dX11_missing_0 rfl (lv_at hl 0 rfl) ?_
  refine lv_iconst (v := 0) hx hb dX11_missing_1 (by decide) ?_
  refine va_put (D := (dC, dI)) (ci := 11) (v := .int 0) (ty := .int) (C := RX11) (T := TX11) (N := 61) hx hb hts hin11 tyX11 tyX11_ok nmX11 hown hK hP hD hS 0 rfl rfl 2 (by decide) hw_0 (fun _ h9 => h9) rfl (by decide +kernel) rfl rfl (Nat.le_of_ble_eq_true rfl) dX11_missing_2 (fun H locs hP hD hS => ?_)
  have hP : va_P (dC, dI) vwCl [(m0, .inr (11, oX11 ra (upd x0 0 0))), (ra 15, .inl (kJ, 24, .inr (.inl q_met)))] H := hP
  have hD : va_D A [(m0, .inr (11, oX11 ra (upd x0 0 0))), (ra 15, .inl (kJ, 24, .inr (.inl q_met)))] := hD
  refine lv_iload_n hx hb dX11_missing_5 rfl (lv_at hl 1 rfl) ?_
  refine lv_iconst (v := 0) hx hb dX11_missing_6 (by decide) ?_
  refine lv_bipush (v := 60) hx hb dX11_missing_7 (by decide) ?_
  have hPc := hP.sub (ws' := []) [] rfl
  have hDc := hD.sub (ws' := []) [] (by decide) rfl
  have hFc := va_free (wc := []) hD hS hA [] rfl
  refine va_calli (va_runS (As := [.int p0, .int 0, .int 60]) (rest := []) ⟨hx, hb, hml, hown, hts⟩ (s11_isIn l dC dI kB kI kJ kZ kC kS H.size p0 0 60) (va_cwS 3 hts gX11_missing_X11_isIn rfl rfl rfl (by decide +kernel) ⟨Nat.le_of_ble_eq_true rfl, Nat.le_of_ble_eq_true rfl⟩) ⟨fun a U g mk q => by obtain ⟨q0, q1, qP, qE, qD⟩ := q; exact ⟨q0, q1, qP, kE_call qE, qD⟩, fun U hU hW => ⟨rfl, by rw [hU], by rw [hU]; exact hPc, kE_warm hW hE, hDc.weaken (fun _ _ _ _ => trivial)⟩⟩ rfl rfl hl.1 rfl (lv_room (Nat.le_of_ble_eq_true rfl)) dX11_missing_9 ⟨Nat.le_of_ble_eq_true rfl, Nat.le_of_ble_eq_true rfl⟩) hS (fun q _ h => hFc q h) hFc (fun r6 u t H1 locs ht hvm w7 hB hz1 hk1 hS => ?_)
  obtain ⟨hP1, hD1⟩ := hB
  rw [ht] at hP1
  try dsimp only at w7
  obtain ⟨hP, hD⟩ := va_join (wr := [(m0, .inr (11, oX11 ra (upd x0 0 0))), (ra 15, .inl (kJ, 24, .inr (.inl q_met)))]) (w1 := []) hP hD [] [0, 1] rfl rfl (by decide) (by decide) hk1 hFc hP1 hD1
  generalize H1 = H at hP hS ⊢
  have hP : va_P (dC, dI) vwCl [(m0, .inr (11, oX11 ra (upd x0 0 0))), (ra 15, .inl (kJ, 24, .inr (.inl q_met)))] H := hP
  have hD : va_D A [(m0, .inr (11, oX11 ra (upd x0 0 0))), (ra 15, .inl (kJ, 24, .inr (.inl q_met)))] := hD
  refine W.widen (k := 0) (n := 0) (Nat.le_of_ble_eq_true rfl) (Nat.le_of_ble_eq_true rfl) ?_
  refine lv_if_eq (tgt := 33) hx hb dX11_missing_12 (by decide) (fun c8 => ?_) (fun c8 => ?_)
  · have b9 : iv 0 0 r6 := iv_eqL c8 (iv_k (by decide) (by decide) : iv 0 0 0)
    exact hJ33 (upd x0 0 0) _ _ _ ((fI_u hX (k := 0) ((iv_w (iv_k (by decide) (by decide) : iv 0 0 0) (by decide) (by decide))))) ((iv_k (by decide) (by decide) : iv 0 0 0)) (hP.sub [0, 1] rfl) (hD.sub [0, 1] (by decide) rfl) hS (lv_sub hl [0, 1, 2] rfl)
  · have b10 : iv 1 1 r6 := iv_neLo c8 w7.1 (iv_k (by decide) (by decide) : iv 0 0 0) (by decide) (by decide)
    have hr11 := (w7.2).resolve_left (iv_ne b10 (iv_k (by decide) (by decide) : iv 0 0 0) (by decide))
    have b12 : iv 0 60 p0 := iv_cap (in_iv hr11 (iv_k (by decide) (by decide) : iv 0 0 0) (iv_k (by decide) (by decide) : iv 60 60 60)) (iv_t p0) (by decide) (by decide)
    refine lv_iload_n hx hb dX11_missing_15 rfl (lv_at hl 2 rfl) ?_
    refine lv_iconst (v := 1) hx hb dX11_missing_16 (by decide) ?_
    refine lv_iconst (v := 5) hx hb dX11_missing_17 (by decide) ?_
    have hPc := hP.sub (ws' := []) [] rfl
    have hDc := hD.sub (ws' := []) [] (by decide) rfl
    have hFc := va_free (wc := []) hD hS hA [] rfl
    refine va_calli (va_runS (As := [.int p1, .int 1, .int 5]) (rest := []) ⟨hx, hb, hml, hown, hts⟩ (s11_isIn l dC dI kB kI kJ kZ kC kS H.size p1 1 5) (va_cwS 3 hts gX11_missing_X11_isIn rfl rfl rfl (by decide +kernel) ⟨Nat.le_of_ble_eq_true rfl, Nat.le_of_ble_eq_true rfl⟩) ⟨fun a U g mk q => by obtain ⟨q0, q1, qP, qE, qD⟩ := q; exact ⟨q0, q1, qP, kE_call qE, qD⟩, fun U hU hW => ⟨rfl, by rw [hU], by rw [hU]; exact hPc, kE_warm hW hE, hDc.weaken (fun _ _ _ _ => trivial)⟩⟩ rfl rfl hl.1 rfl (lv_room (Nat.le_of_ble_eq_true rfl)) dX11_missing_18 ⟨Nat.le_of_ble_eq_true rfl, Nat.le_of_ble_eq_true rfl⟩) hS (fun q _ h => hFc q h) hFc (fun r13 u t H1 locs ht hvm w14 hB hz1 hk1 hS => ?_)
    obtain ⟨hP1, hD1⟩ := hB
    rw [ht] at hP1
    try dsimp only at w14
    obtain ⟨hP, hD⟩ := va_join (wr := [(m0, .inr (11, oX11 ra (upd x0 0 0))), (ra 15, .inl (kJ, 24, .inr (.inl q_met)))]) (w1 := []) hP hD [] [0, 1] rfl rfl (by decide) (by decide) hk1 hFc hP1 hD1
    generalize H1 = H at hP hS ⊢
    have hP : va_P (dC, dI) vwCl [(m0, .inr (11, oX11 ra (upd x0 0 0))), (ra 15, .inl (kJ, 24, .inr (.inl q_met)))] H := hP
    have hD : va_D A [(m0, .inr (11, oX11 ra (upd x0 0 0))), (ra 15, .inl (kJ, 24, .inr (.inl q_met)))] := hD
    refine W.widen (k := 0) (n := 0) (Nat.le_of_ble_eq_true rfl) (Nat.le_of_ble_eq_true rfl) ?_
    refine lv_if_eq (tgt := 33) hx hb dX11_missing_21 (by decide) (fun c15 => ?_) (fun c15 => ?_)
    · have b16 : iv 0 0 r13 := iv_eqL c15 (iv_k (by decide) (by decide) : iv 0 0 0)
      exact hJ33 (upd x0 0 0) _ _ _ ((fI_u hX (k := 0) ((iv_w (iv_k (by decide) (by decide) : iv 0 0 0) (by decide) (by decide))))) ((iv_k (by decide) (by decide) : iv 0 0 0)) (hP.sub [0, 1] rfl) (hD.sub [0, 1] (by decide) rfl) hS (lv_sub hl [0, 1, 2] rfl)
    · have b17 : iv 1 1 r13 := iv_neLo c15 w14.1 (iv_k (by decide) (by decide) : iv 0 0 0) (by decide) (by decide)
      have hr18 := (w14.2).resolve_left (iv_ne b17 (iv_k (by decide) (by decide) : iv 0 0 0) (by decide))
      have b19 : iv 1 5 p1 := iv_cap (in_iv hr18 (iv_k (by decide) (by decide) : iv 1 1 1) (iv_k (by decide) (by decide) : iv 5 5 5)) (iv_t p1) (by decide) (by decide)
      refine lv_aload_n hx hb dX11_missing_24 rfl (lv_at hl 0 rfl) ?_
      refine lv_iload_n hx hb dX11_missing_25 rfl (lv_at hl 1 rfl) ?_
      refine lv_iload_n hx hb dX11_missing_26 rfl (lv_at hl 2 rfl) ?_
      have hPc := hP.sub (ws' := [(m0, .inr (11, oX11 ra (upd x0 0 0))), (ra 15, .inl (kJ, 24, .inr (.inl q_met)))]) [0, 1] rfl
      have hDc := hD.sub (ws' := [(m0, .inr (11, oX11 ra (upd x0 0 0))), (ra 15, .inl (kJ, 24, .inr (.inl q_met)))]) [0, 1] (by decide) rfl
      have hFc := va_free (wc := [(m0, .inr (11, oX11 ra (upd x0 0 0))), (ra 15, .inl (kJ, 24, .inr (.inl q_met)))]) hD hS hA [0, 1] rfl
      refine va_calll (va_runV (As := [.int p0, .int p1]) (rest := []) ⟨hx, hb, hml, hown, hts⟩ (s11_missingOf l dC dI kB kI kJ kZ kC kS H.size m0 ra (upd x0 0 0) q_met p0 p1 ((fI_u hX (k := 0) ((iv_w (iv_k (by decide) (by decide) : iv 0 0 0) (by decide) (by decide))))) ((iv_w b19 (by decide) (by decide)))) (cwV 2 hts gX11_missing_X11_missingOf rfl rfl rfl (by decide +kernel) ⟨Nat.le_of_ble_eq_true rfl, Nat.le_of_ble_eq_true rfl⟩) ⟨fun a U g mk q => by obtain ⟨q0, q1, qP, qE, qD⟩ := q; exact ⟨q0, q1, qP, kE_call qE, qD⟩, va_recv hK hP (ci := 11) (q0 := 0) rfl rfl, fun U hU hW => ⟨rfl, by rw [hU], by rw [hU]; exact hPc, kE_warm hW hE, hDc.weaken (fun _ _ _ _ => trivial)⟩⟩ rfl rfl hl.1 rfl (lv_room (Nat.le_of_ble_eq_true rfl)) dX11_missing_27 ⟨Nat.le_of_ble_eq_true rfl, Nat.le_of_ble_eq_true rfl⟩) hS (fun q _ h => hFc q h) hFc (fun r20 u t H1 locs ht hvm w21 hB hz1 hk1 hS => ?_)
      obtain ⟨f22, hP1, hD1⟩ := hB
      rw [ht] at hP1
      try dsimp only at w21
      obtain ⟨hP, hD⟩ := va_join (wr := []) (w1 := [(m0, .inr (11, oX11 ra (upd x0 0 0))), (ra 15, .inl (kJ, 24, .inr (.inl f22)))]) hP hD [0, 1] [] rfl rfl (by decide) (by decide) hk1 hFc hP1 hD1
      generalize H1 = H at hP hS ⊢
      have hP : va_P (dC, dI) vwCl [(m0, .inr (11, oX11 ra (upd x0 0 0))), (ra 15, .inl (kJ, 24, .inr (.inl f22)))] H := hP
      have hD : va_D A [(m0, .inr (11, oX11 ra (upd x0 0 0))), (ra 15, .inl (kJ, 24, .inr (.inl f22)))] := hD
      refine W.widen (k := 0) (n := 0) (Nat.le_of_ble_eq_true rfl) (Nat.le_of_ble_eq_true rfl) ?_
      refine lv_goto (tgt := 39) hx hb dX11_missing_30 (by decide) ?_
      have hP9 := hP.sub (ws' := [(m0, .inr (11, oX11 ra (upd x0 0 0))), (ra 15, .inl (kJ, 24, .inr (.inl f22)))]) [0, 1] rfl
      have hD9 := hD.sub (ws' := [(m0, .inr (11, oX11 ra (upd x0 0 0))), (ra 15, .inl (kJ, 24, .inr (.inl f22)))]) [0, 1] (by decide) rfl
      exact W.lret (v := r20) hx hb hr (fun t ht hW => ⟨⟨r20, (), rfl, trivial, upd x0 0 0, f22, (fI_u hX (k := 0) ((iv_w (iv_k (by decide) (by decide) : iv 0 0 0) (by decide) (by decide)))), by rw [ht]; exact hP9, hD9⟩, hS.F ht⟩) hS.2.2 dX11_missing_39
def rm_s11_edge : Room := { frames := 3, cells := 0, slots := 0, locals := 71 }
set_option maxHeartbeats 4000000 in
set_option maxRecDepth 100000 in
theorem s11_edge (l : Launch) (dC : Nat → ClassId) (dI : Nat → Nat → Nat) (kB kI kJ kZ kC kS : ClassId) (sz : Nat) (m0 : Nat) (ra : Nat → Nat) (x0 : Nat → Int32) (q_told : Nat → Int32) (q_now : Nat → Int32) (p0 : Int32) (p1 : Int32) (p2 : Int32) (p3 : Int32) (hX : fI lX11 hX11 x0) (hq_told : fI lTold hTold q_told) (hq_now : fI lNow hNow q_now) : Met l yX11_edge wsX11_edge rm_s11_edge (va_Pc [.ref m0, .int p0, .int p1, .int p2, .int p3] (fun U => U.heap.size = sz ∧ va_P (dC, dI) vwCl [(m0, .inr (11, oX11 ra x0)), (ra 2, .inl (kI, 8, .inl q_told)), (ra 11, .inl (kI, 1019, .inl q_now))] U.heap ∧ kE dC dI kB kI kJ kZ kC kS U ∧ va_D (fun _ => True) [(m0, .inr (11, oX11 ra x0)), (ra 2, .inl (kI, 8, .inl q_told)), (ra 11, .inl (kI, 1019, .inl q_now))])) (va_Qi (fun (r : Int32) (_ : Unit) => iv 0 1 r) (fun _ t => ∃ (x0' : Nat → Int32), fI lX11 hX11 x0' ∧ va_P (dC, dI) vwCl [(m0, .inr (11, oX11 ra x0')), (ra 2, .inl (kI, 8, .inl q_told)), (ra 11, .inl (kI, 1019, .inl q_now))] t.heap ∧ va_D (va_A [(m0, .inr (11, oX11 ra x0)), (ra 2, .inl (kI, 8, .inl q_told)), (ra 11, .inl (kI, 1019, .inl q_now))] sz) [(m0, .inr (11, oX11 ra x0')), (ra 2, .inl (kI, 8, .inl q_told)), (ra 11, .inl (kI, 1019, .inl q_now))]) (va_A [(m0, .inr (11, oX11 ra x0)), (ra 2, .inl (kI, 8, .inl q_told)), (ra 11, .inl (kI, 1019, .inl q_now))] sz)) 0 0 (va_A [(m0, .inr (11, oX11 ra x0)), (ra 2, .inl (kI, 8, .inl q_told)), (ra 11, .inl (kI, 1019, .inl q_now))] sz) := by
  refine Met.ofW (cc := cX11_edge) (maxL := 6) (ret := (some .int)) (by decide) rfl ?_
  intro p e s m args0 below meth c s₁ B hml hv
  obtain ⟨hargs, hsz, hP, hE, hD0⟩ := hv
  have hx := B.exec
  have hb := B.bytes
  have hr := B.returns
  have hts := atoms_spec (ws := wsX11_edge) B.pre
  have hown : s.vm.findClass RX11 = some m.cls := findClass_of_methodNamed B.named
  have hlocks := B.notSynchronized
  have hK := hE.1
  have hin11 : ∀ w ∈ wsX110, w ∈ wsX11_edge := fun _ h9 => List.mem_cons_of_mem _ (List.mem_append_right _ h9)
  have hw_0 := hts (.fieldLink RX11 142 "PathProberModel" "code" "I") (List.mem_of_getElem? (i := 1) (by decide +kernel))
  subst hsz
  have hD := hD0.self (sz := s.heap.size)
  generalize hAe : va_A [(m0, .inr (11, oX11 ra x0)), (ra 2, .inl (kI, 8, .inl q_told)), (ra 11, .inl (kI, 1019, .inl q_now))] s.heap.size = A at hD ⊢
  have hA : ∀ q : Nat, s.heap.size ≤ q → A q := fun q h => by rw [← hAe]; exact Or.inr h
  have hS : va_S A s.heap s.heap [] := va_S.rf
  have hP : va_P (dC, dI) vwCl [(m0, .inr (11, oX11 ra x0)), (ra 2, .inl (kI, 8, .inl q_told)), (ra 11, .inl (kI, 1019, .inl q_now))] s.heap := hP
  have hl := lv_entry ([.ref m0, .int p0, .int p1, .int p2, .int p3]) (n := 6) (Nat.le_of_ble_eq_true rfl)
  have hla : entryFrame m args0 6 = entryFrame m ([.ref m0, .int p0, .int p1, .int p2, .int p3] : List Value).toArray 6 := by rw [hargs]
  rw [hla, lg_entry_eq]
  generalize (lg_sl ([.ref m0, .int p0, .int p1, .int p2, .int p3]) ++ List.replicate (6 - (lg_sl ([.ref m0, .int p0, .int p1, .int p2, .int p3])).length) Slot.unset).toArray = ls at hl ⊢
  have hl : lv_has ls 6 [(0, .ref m0), (1, .int p0), (2, .int p1), (3, .int p2), (4, .int p3)] := hl
  refine lv_aload_n hx hb dX11_edge_0 rfl (lv_at hl 0 rfl) ?_
  refine lv_iconst (v := 0) hx hb dX11_edge_1 (by decide) ?_
  refine va_put (D := (dC, dI)) (ci := 11) (v := .int 0) (ty := .int) (C := RX11) (T := TX11) (N := 61) hx hb hts hin11 tyX11 tyX11_ok nmX11 hown hK hP hD hS 0 rfl rfl 2 (by decide) hw_0 (fun _ h9 => h9) rfl (by decide +kernel) rfl rfl (Nat.le_of_ble_eq_true rfl) dX11_edge_2 (fun H locs hP hD hS => ?_)
  have hP : va_P (dC, dI) vwCl [(m0, .inr (11, oX11 ra (upd x0 0 0))), (ra 2, .inl (kI, 8, .inl q_told)), (ra 11, .inl (kI, 1019, .inl q_now))] H := hP
  have hD : va_D A [(m0, .inr (11, oX11 ra (upd x0 0 0))), (ra 2, .inl (kI, 8, .inl q_told)), (ra 11, .inl (kI, 1019, .inl q_now))] := hD
  refine lv_aload_n hx hb dX11_edge_5 rfl (lv_at hl 0 rfl) ?_
  refine lv_iload_n hx hb dX11_edge_6 rfl (lv_at hl 1 rfl) ?_
  have hPc := hP.sub (ws' := [(m0, .inr (11, oX11 ra (upd x0 0 0))), (ra 2, .inl (kI, 8, .inl q_told))]) [0, 1] rfl
  have hDc := hD.sub (ws' := [(m0, .inr (11, oX11 ra (upd x0 0 0))), (ra 2, .inl (kI, 8, .inl q_told))]) [0, 1] (by decide) rfl
  have hFc := va_free (wc := [(m0, .inr (11, oX11 ra (upd x0 0 0))), (ra 2, .inl (kI, 8, .inl q_told))]) hD hS hA [0, 1] rfl
  refine va_calli (va_runV (As := [.int p0]) (rest := []) ⟨hx, hb, hml, hown, hts⟩ (s11_isGoal l dC dI kB kI kJ kZ kC kS H.size m0 ra (upd x0 0 0) q_told p0 ((fI_u hX (k := 0) ((iv_w (iv_k (by decide) (by decide) : iv 0 0 0) (by decide) (by decide))))) (hq_told)) (cwV 1 hts gX11_edge_X11_isGoal rfl rfl rfl (by decide +kernel) ⟨Nat.le_of_ble_eq_true rfl, Nat.le_of_ble_eq_true rfl⟩) ⟨fun a U g mk q => by obtain ⟨q0, q1, qP, qE, qD⟩ := q; exact ⟨q0, q1, qP, kE_call qE, qD⟩, va_recv hK hP (ci := 11) (q0 := 0) rfl rfl, fun U hU hW => ⟨rfl, by rw [hU], by rw [hU]; exact hPc, kE_warm hW hE, hDc.weaken (fun _ _ _ _ => trivial)⟩⟩ rfl rfl hl.1 rfl (lv_room (Nat.le_of_ble_eq_true rfl)) dX11_edge_7 ⟨Nat.le_of_ble_eq_true rfl, Nat.le_of_ble_eq_true rfl⟩) hS (fun q _ h => hFc q h) hFc (fun r1 u t H1 locs ht hvm w2 hB hz1 hk1 hS => ?_)
  obtain ⟨hP1, hD1⟩ := hB
  rw [ht] at hP1
  try dsimp only at w2
  obtain ⟨hP, hD⟩ := va_join (wr := [(ra 11, .inl (kI, 1019, .inl q_now))]) (w1 := [(m0, .inr (11, oX11 ra (upd x0 0 0))), (ra 2, .inl (kI, 8, .inl q_told))]) hP hD [0, 1] [2] rfl rfl (by decide) (by decide) hk1 hFc hP1 hD1
  generalize H1 = H at hP hS ⊢
  have hP : va_P (dC, dI) vwCl [(ra 11, .inl (kI, 1019, .inl q_now)), (m0, .inr (11, oX11 ra (upd x0 0 0))), (ra 2, .inl (kI, 8, .inl q_told))] H := hP
  have hD : va_D A [(ra 11, .inl (kI, 1019, .inl q_now)), (m0, .inr (11, oX11 ra (upd x0 0 0))), (ra 2, .inl (kI, 8, .inl q_told))] := hD
  refine W.widen (k := 0) (n := 0) (Nat.le_of_ble_eq_true rfl) (Nat.le_of_ble_eq_true rfl) ?_
  refine lv_if_eq (tgt := 44) hx hb dX11_edge_10 (by decide) (fun c3 => ?_) (fun c3 => ?_)
  · have b4 : iv 0 0 r1 := iv_eqL c3 (iv_k (by decide) (by decide) : iv 0 0 0)
    refine lv_iconst (v := 0) hx hb dX11_edge_44 (by decide) ?_
    refine lv_istore (lv' := [(5, .int 0), (0, .ref m0), (1, .int p0), (2, .int p1), (3, .int p2), (4, .int p3)]) hx hb dX11_edge_45 hl (by decide) rfl (fun ls hl => ?_)
    refine lv_iload hx hb dX11_edge_47 (lv_at hl 0 rfl) ?_
    refine lv_if_eq (tgt := 72) hx hb dX11_edge_49 (by decide) (fun _ => ?_) (fun c9 => absurd (by decide) c9)
    refine lv_aload_n hx hb dX11_edge_72 rfl (lv_at hl 1 rfl) ?_
    refine lv_iconst (v := 1) hx hb dX11_edge_73 (by decide) ?_
    have hPc := hP.sub (ws' := [(m0, .inr (11, oX11 ra (upd x0 0 0)))]) [1] rfl
    have hDc := hD.sub (ws' := [(m0, .inr (11, oX11 ra (upd x0 0 0)))]) [1] (by decide) rfl
    have hFc := va_free (wc := [(m0, .inr (11, oX11 ra (upd x0 0 0)))]) hD hS hA [1] rfl
    refine va_calli (va_runV (As := [.int 1]) (rest := []) ⟨hx, hb, hml, hown, hts⟩ (s11_fail l dC dI kB kI kJ kZ kC kS H.size m0 ra (upd x0 0 0) 1 ((fI_u hX (k := 0) ((iv_w (iv_k (by decide) (by decide) : iv 0 0 0) (by decide) (by decide)))))) (cwV 1 hts gX11_edge_X11_fail rfl rfl rfl (by decide +kernel) ⟨Nat.le_of_ble_eq_true rfl, Nat.le_of_ble_eq_true rfl⟩) ⟨fun a U g mk q => by obtain ⟨q0, q1, qP, qE, qD⟩ := q; exact ⟨q0, q1, qP, kE_call qE, qD⟩, va_recv hK hP (ci := 11) (q0 := 1) rfl rfl, fun U hU hW => ⟨rfl, by rw [hU], by rw [hU]; exact hPc, kE_warm hW hE, hDc.weaken (fun _ _ _ _ => trivial)⟩⟩ rfl rfl hl.1 rfl (lv_room (Nat.le_of_ble_eq_true rfl)) dX11_edge_74 ⟨Nat.le_of_ble_eq_true rfl, Nat.le_of_ble_eq_true rfl⟩) hS (fun q _ h => hFc q h) hFc (fun r5 u t H1 locs ht hvm w6 hB hz1 hk1 hS => ?_)
    obtain ⟨y7, hq8, hq9, hP1, hD1⟩ := hB
    rw [ht] at hP1
    try dsimp only at w6
    obtain ⟨hP, hD⟩ := va_join (wr := [(ra 11, .inl (kI, 1019, .inl q_now)), (ra 2, .inl (kI, 8, .inl q_told))]) (w1 := [(m0, .inr (11, oX11 ra y7))]) hP hD [1] [0, 2] rfl rfl (by decide) (by decide) hk1 hFc hP1 hD1
    generalize H1 = H at hP hS ⊢
    have hP : va_P (dC, dI) vwCl [(ra 11, .inl (kI, 1019, .inl q_now)), (ra 2, .inl (kI, 8, .inl q_told)), (m0, .inr (11, oX11 ra y7))] H := hP
    have hD : va_D A [(ra 11, .inl (kI, 1019, .inl q_now)), (ra 2, .inl (kI, 8, .inl q_told)), (m0, .inr (11, oX11 ra y7))] := hD
    refine W.widen (k := 0) (n := 0) (Nat.le_of_ble_eq_true rfl) (Nat.le_of_ble_eq_true rfl) ?_
    obtain rfl : r5 = 0 := iv_one w6 (by decide)
    have hP9 := hP.sub (ws' := [(m0, .inr (11, oX11 ra y7)), (ra 2, .inl (kI, 8, .inl q_told)), (ra 11, .inl (kI, 1019, .inl q_now))]) [2, 1, 0] rfl
    have hD9 := hD.sub (ws' := [(m0, .inr (11, oX11 ra y7)), (ra 2, .inl (kI, 8, .inl q_told)), (ra 11, .inl (kI, 1019, .inl q_now))]) [2, 1, 0] (by decide) rfl
    exact W.iret (v := 0) hx hb hr (fun t ht hW => ⟨⟨0, (), rfl, (iv_w (iv_k (by decide) (by decide) : iv 0 0 0) (by decide) (by decide)), y7, hq8, by rw [ht]; exact hP9, hD9⟩, hS.F ht⟩) hS.2.2 dX11_edge_77
  · have b10 : iv 1 1 r1 := iv_neLo c3 w2.1 (iv_k (by decide) (by decide) : iv 0 0 0) (by decide) (by decide)
    have b11 : iv 0 2 p0 := (w2.2).resolve_left (iv_ne b10 (iv_k (by decide) (by decide) : iv 0 0 0) (by decide))
    refine lv_iload_n hx hb dX11_edge_13 rfl (lv_at hl 2 rfl) ?_
    refine lv_iconst (v := 1) hx hb dX11_edge_14 (by decide) ?_
    refine lv_bipush (v := 9) hx hb dX11_edge_15 (by decide) ?_
    have hPc := hP.sub (ws' := []) [] rfl
    have hDc := hD.sub (ws' := []) [] (by decide) rfl
    have hFc := va_free (wc := []) hD hS hA [] rfl
    refine va_calli (va_runS (As := [.int p1, .int 1, .int 9]) (rest := []) ⟨hx, hb, hml, hown, hts⟩ (s11_isIn l dC dI kB kI kJ kZ kC kS H.size p1 1 9) (va_cwS 3 hts gX11_edge_X11_isIn rfl rfl rfl (by decide +kernel) ⟨Nat.le_of_ble_eq_true rfl, Nat.le_of_ble_eq_true rfl⟩) ⟨fun a U g mk q => by obtain ⟨q0, q1, qP, qE, qD⟩ := q; exact ⟨q0, q1, qP, kE_call qE, qD⟩, fun U hU hW => ⟨rfl, by rw [hU], by rw [hU]; exact hPc, kE_warm hW hE, hDc.weaken (fun _ _ _ _ => trivial)⟩⟩ rfl rfl hl.1 rfl (lv_room (Nat.le_of_ble_eq_true rfl)) dX11_edge_17 ⟨Nat.le_of_ble_eq_true rfl, Nat.le_of_ble_eq_true rfl⟩) hS (fun q _ h => hFc q h) hFc (fun r12 u t H1 locs ht hvm w13 hB hz1 hk1 hS => ?_)
    obtain ⟨hP1, hD1⟩ := hB
    rw [ht] at hP1
    try dsimp only at w13
    obtain ⟨hP, hD⟩ := va_join (wr := [(ra 11, .inl (kI, 1019, .inl q_now)), (m0, .inr (11, oX11 ra (upd x0 0 0))), (ra 2, .inl (kI, 8, .inl q_told))]) (w1 := []) hP hD [] [0, 1, 2] rfl rfl (by decide) (by decide) hk1 hFc hP1 hD1
    generalize H1 = H at hP hS ⊢
    have hP : va_P (dC, dI) vwCl [(ra 11, .inl (kI, 1019, .inl q_now)), (m0, .inr (11, oX11 ra (upd x0 0 0))), (ra 2, .inl (kI, 8, .inl q_told))] H := hP
    have hD : va_D A [(ra 11, .inl (kI, 1019, .inl q_now)), (m0, .inr (11, oX11 ra (upd x0 0 0))), (ra 2, .inl (kI, 8, .inl q_told))] := hD
    refine W.widen (k := 0) (n := 0) (Nat.le_of_ble_eq_true rfl) (Nat.le_of_ble_eq_true rfl) ?_
    refine lv_if_eq (tgt := 44) hx hb dX11_edge_20 (by decide) (fun c14 => ?_) (fun c14 => ?_)
    · have b15 : iv 0 0 r12 := iv_eqL c14 (iv_k (by decide) (by decide) : iv 0 0 0)
      refine lv_iconst (v := 0) hx hb dX11_edge_44 (by decide) ?_
      refine lv_istore (lv' := [(5, .int 0), (0, .ref m0), (1, .int p0), (2, .int p1), (3, .int p2), (4, .int p3)]) hx hb dX11_edge_45 hl (by decide) rfl (fun ls hl => ?_)
      refine lv_iload hx hb dX11_edge_47 (lv_at hl 0 rfl) ?_
      refine lv_if_eq (tgt := 72) hx hb dX11_edge_49 (by decide) (fun _ => ?_) (fun c9 => absurd (by decide) c9)
      refine lv_aload_n hx hb dX11_edge_72 rfl (lv_at hl 1 rfl) ?_
      refine lv_iconst (v := 1) hx hb dX11_edge_73 (by decide) ?_
      have hPc := hP.sub (ws' := [(m0, .inr (11, oX11 ra (upd x0 0 0)))]) [1] rfl
      have hDc := hD.sub (ws' := [(m0, .inr (11, oX11 ra (upd x0 0 0)))]) [1] (by decide) rfl
      have hFc := va_free (wc := [(m0, .inr (11, oX11 ra (upd x0 0 0)))]) hD hS hA [1] rfl
      refine va_calli (va_runV (As := [.int 1]) (rest := []) ⟨hx, hb, hml, hown, hts⟩ (s11_fail l dC dI kB kI kJ kZ kC kS H.size m0 ra (upd x0 0 0) 1 ((fI_u hX (k := 0) ((iv_w (iv_k (by decide) (by decide) : iv 0 0 0) (by decide) (by decide)))))) (cwV 1 hts gX11_edge_X11_fail rfl rfl rfl (by decide +kernel) ⟨Nat.le_of_ble_eq_true rfl, Nat.le_of_ble_eq_true rfl⟩) ⟨fun a U g mk q => by obtain ⟨q0, q1, qP, qE, qD⟩ := q; exact ⟨q0, q1, qP, kE_call qE, qD⟩, va_recv hK hP (ci := 11) (q0 := 1) rfl rfl, fun U hU hW => ⟨rfl, by rw [hU], by rw [hU]; exact hPc, kE_warm hW hE, hDc.weaken (fun _ _ _ _ => trivial)⟩⟩ rfl rfl hl.1 rfl (lv_room (Nat.le_of_ble_eq_true rfl)) dX11_edge_74 ⟨Nat.le_of_ble_eq_true rfl, Nat.le_of_ble_eq_true rfl⟩) hS (fun q _ h => hFc q h) hFc (fun r16 u t H1 locs ht hvm w17 hB hz1 hk1 hS => ?_)
      obtain ⟨y18, hq19, hq20, hP1, hD1⟩ := hB
      rw [ht] at hP1
      try dsimp only at w17
      obtain ⟨hP, hD⟩ := va_join (wr := [(ra 11, .inl (kI, 1019, .inl q_now)), (ra 2, .inl (kI, 8, .inl q_told))]) (w1 := [(m0, .inr (11, oX11 ra y18))]) hP hD [1] [0, 2] rfl rfl (by decide) (by decide) hk1 hFc hP1 hD1
      generalize H1 = H at hP hS ⊢
      have hP : va_P (dC, dI) vwCl [(ra 11, .inl (kI, 1019, .inl q_now)), (ra 2, .inl (kI, 8, .inl q_told)), (m0, .inr (11, oX11 ra y18))] H := hP
      have hD : va_D A [(ra 11, .inl (kI, 1019, .inl q_now)), (ra 2, .inl (kI, 8, .inl q_told)), (m0, .inr (11, oX11 ra y18))] := hD
      refine W.widen (k := 0) (n := 0) (Nat.le_of_ble_eq_true rfl) (Nat.le_of_ble_eq_true rfl) ?_
      obtain rfl : r16 = 0 := iv_one w17 (by decide)
      have hP9 := hP.sub (ws' := [(m0, .inr (11, oX11 ra y18)), (ra 2, .inl (kI, 8, .inl q_told)), (ra 11, .inl (kI, 1019, .inl q_now))]) [2, 1, 0] rfl
      have hD9 := hD.sub (ws' := [(m0, .inr (11, oX11 ra y18)), (ra 2, .inl (kI, 8, .inl q_told)), (ra 11, .inl (kI, 1019, .inl q_now))]) [2, 1, 0] (by decide) rfl
      exact W.iret (v := 0) hx hb hr (fun t ht hW => ⟨⟨0, (), rfl, (iv_w (iv_k (by decide) (by decide) : iv 0 0 0) (by decide) (by decide)), y18, hq19, by rw [ht]; exact hP9, hD9⟩, hS.F ht⟩) hS.2.2 dX11_edge_77
    · have b21 : iv 1 1 r12 := iv_neLo c14 w13.1 (iv_k (by decide) (by decide) : iv 0 0 0) (by decide) (by decide)
      have hr22 := (w13.2).resolve_left (iv_ne b21 (iv_k (by decide) (by decide) : iv 0 0 0) (by decide))
      have b23 : iv 1 9 p1 := iv_cap (in_iv hr22 (iv_k (by decide) (by decide) : iv 1 1 1) (iv_k (by decide) (by decide) : iv 9 9 9)) (iv_t p1) (by decide) (by decide)
      refine lv_aload_n hx hb dX11_edge_23 rfl (lv_at hl 0 rfl) ?_
      refine lv_iload_n hx hb dX11_edge_24 rfl (lv_at hl 3 rfl) ?_
      have hPc := hP.sub (ws' := [(m0, .inr (11, oX11 ra (upd x0 0 0))), (ra 2, .inl (kI, 8, .inl q_told))]) [1, 2] rfl
      have hDc := hD.sub (ws' := [(m0, .inr (11, oX11 ra (upd x0 0 0))), (ra 2, .inl (kI, 8, .inl q_told))]) [1, 2] (by decide) rfl
      have hFc := va_free (wc := [(m0, .inr (11, oX11 ra (upd x0 0 0))), (ra 2, .inl (kI, 8, .inl q_told))]) hD hS hA [1, 2] rfl
      refine va_calli (va_runV (As := [.int p2]) (rest := []) ⟨hx, hb, hml, hown, hts⟩ (s11_isAddress l dC dI kB kI kJ kZ kC kS H.size m0 ra (upd x0 0 0) q_told p2 ((fI_u hX (k := 0) ((iv_w (iv_k (by decide) (by decide) : iv 0 0 0) (by decide) (by decide))))) (hq_told)) (cwV 1 hts gX11_edge_X11_isAddress rfl rfl rfl (by decide +kernel) ⟨Nat.le_of_ble_eq_true rfl, Nat.le_of_ble_eq_true rfl⟩) ⟨fun a U g mk q => by obtain ⟨q0, q1, qP, qE, qD⟩ := q; exact ⟨q0, q1, qP, kE_call qE, qD⟩, va_recv hK hP (ci := 11) (q0 := 1) rfl rfl, fun U hU hW => ⟨rfl, by rw [hU], by rw [hU]; exact hPc, kE_warm hW hE, hDc.weaken (fun _ _ _ _ => trivial)⟩⟩ rfl rfl hl.1 rfl (lv_room (Nat.le_of_ble_eq_true rfl)) dX11_edge_25 ⟨Nat.le_of_ble_eq_true rfl, Nat.le_of_ble_eq_true rfl⟩) hS (fun q _ h => hFc q h) hFc (fun r24 u t H1 locs ht hvm w25 hB hz1 hk1 hS => ?_)
      obtain ⟨hP1, hD1⟩ := hB
      rw [ht] at hP1
      try dsimp only at w25
      obtain ⟨hP, hD⟩ := va_join (wr := [(ra 11, .inl (kI, 1019, .inl q_now))]) (w1 := [(m0, .inr (11, oX11 ra (upd x0 0 0))), (ra 2, .inl (kI, 8, .inl q_told))]) hP hD [1, 2] [0] rfl rfl (by decide) (by decide) hk1 hFc hP1 hD1
      generalize H1 = H at hP hS ⊢
      have hP : va_P (dC, dI) vwCl [(ra 11, .inl (kI, 1019, .inl q_now)), (m0, .inr (11, oX11 ra (upd x0 0 0))), (ra 2, .inl (kI, 8, .inl q_told))] H := hP
      have hD : va_D A [(ra 11, .inl (kI, 1019, .inl q_now)), (m0, .inr (11, oX11 ra (upd x0 0 0))), (ra 2, .inl (kI, 8, .inl q_told))] := hD
      refine W.widen (k := 0) (n := 0) (Nat.le_of_ble_eq_true rfl) (Nat.le_of_ble_eq_true rfl) ?_
      refine lv_if_eq (tgt := 44) hx hb dX11_edge_28 (by decide) (fun c26 => ?_) (fun c26 => ?_)
      · have b27 : iv 0 0 r24 := iv_eqL c26 (iv_k (by decide) (by decide) : iv 0 0 0)
        refine lv_iconst (v := 0) hx hb dX11_edge_44 (by decide) ?_
        refine lv_istore (lv' := [(5, .int 0), (0, .ref m0), (1, .int p0), (2, .int p1), (3, .int p2), (4, .int p3)]) hx hb dX11_edge_45 hl (by decide) rfl (fun ls hl => ?_)
        refine lv_iload hx hb dX11_edge_47 (lv_at hl 0 rfl) ?_
        refine lv_if_eq (tgt := 72) hx hb dX11_edge_49 (by decide) (fun _ => ?_) (fun c9 => absurd (by decide) c9)
        refine lv_aload_n hx hb dX11_edge_72 rfl (lv_at hl 1 rfl) ?_
        refine lv_iconst (v := 1) hx hb dX11_edge_73 (by decide) ?_
        have hPc := hP.sub (ws' := [(m0, .inr (11, oX11 ra (upd x0 0 0)))]) [1] rfl
        have hDc := hD.sub (ws' := [(m0, .inr (11, oX11 ra (upd x0 0 0)))]) [1] (by decide) rfl
        have hFc := va_free (wc := [(m0, .inr (11, oX11 ra (upd x0 0 0)))]) hD hS hA [1] rfl
        refine va_calli (va_runV (As := [.int 1]) (rest := []) ⟨hx, hb, hml, hown, hts⟩ (s11_fail l dC dI kB kI kJ kZ kC kS H.size m0 ra (upd x0 0 0) 1 ((fI_u hX (k := 0) ((iv_w (iv_k (by decide) (by decide) : iv 0 0 0) (by decide) (by decide)))))) (cwV 1 hts gX11_edge_X11_fail rfl rfl rfl (by decide +kernel) ⟨Nat.le_of_ble_eq_true rfl, Nat.le_of_ble_eq_true rfl⟩) ⟨fun a U g mk q => by obtain ⟨q0, q1, qP, qE, qD⟩ := q; exact ⟨q0, q1, qP, kE_call qE, qD⟩, va_recv hK hP (ci := 11) (q0 := 1) rfl rfl, fun U hU hW => ⟨rfl, by rw [hU], by rw [hU]; exact hPc, kE_warm hW hE, hDc.weaken (fun _ _ _ _ => trivial)⟩⟩ rfl rfl hl.1 rfl (lv_room (Nat.le_of_ble_eq_true rfl)) dX11_edge_74 ⟨Nat.le_of_ble_eq_true rfl, Nat.le_of_ble_eq_true rfl⟩) hS (fun q _ h => hFc q h) hFc (fun r28 u t H1 locs ht hvm w29 hB hz1 hk1 hS => ?_)
        obtain ⟨y30, hq31, hq32, hP1, hD1⟩ := hB
        rw [ht] at hP1
        try dsimp only at w29
        obtain ⟨hP, hD⟩ := va_join (wr := [(ra 11, .inl (kI, 1019, .inl q_now)), (ra 2, .inl (kI, 8, .inl q_told))]) (w1 := [(m0, .inr (11, oX11 ra y30))]) hP hD [1] [0, 2] rfl rfl (by decide) (by decide) hk1 hFc hP1 hD1
        generalize H1 = H at hP hS ⊢
        have hP : va_P (dC, dI) vwCl [(ra 11, .inl (kI, 1019, .inl q_now)), (ra 2, .inl (kI, 8, .inl q_told)), (m0, .inr (11, oX11 ra y30))] H := hP
        have hD : va_D A [(ra 11, .inl (kI, 1019, .inl q_now)), (ra 2, .inl (kI, 8, .inl q_told)), (m0, .inr (11, oX11 ra y30))] := hD
        refine W.widen (k := 0) (n := 0) (Nat.le_of_ble_eq_true rfl) (Nat.le_of_ble_eq_true rfl) ?_
        obtain rfl : r28 = 0 := iv_one w29 (by decide)
        have hP9 := hP.sub (ws' := [(m0, .inr (11, oX11 ra y30)), (ra 2, .inl (kI, 8, .inl q_told)), (ra 11, .inl (kI, 1019, .inl q_now))]) [2, 1, 0] rfl
        have hD9 := hD.sub (ws' := [(m0, .inr (11, oX11 ra y30)), (ra 2, .inl (kI, 8, .inl q_told)), (ra 11, .inl (kI, 1019, .inl q_now))]) [2, 1, 0] (by decide) rfl
        exact W.iret (v := 0) hx hb hr (fun t ht hW => ⟨⟨0, (), rfl, (iv_w (iv_k (by decide) (by decide) : iv 0 0 0) (by decide) (by decide)), y30, hq31, by rw [ht]; exact hP9, hD9⟩, hS.F ht⟩) hS.2.2 dX11_edge_77
      · have b33 : iv 1 1 r24 := iv_neLo c26 w25.1 (iv_k (by decide) (by decide) : iv 0 0 0) (by decide) (by decide)
        have b34 : iv 0 20 p2 := (w25.2).resolve_left (iv_ne b33 (iv_k (by decide) (by decide) : iv 0 0 0) (by decide))
        refine lv_aload_n hx hb dX11_edge_31 rfl (lv_at hl 0 rfl) ?_
        refine lv_iload hx hb dX11_edge_32 (lv_at hl 4 rfl) ?_
        have hPc := hP.sub (ws' := [(m0, .inr (11, oX11 ra (upd x0 0 0))), (ra 2, .inl (kI, 8, .inl q_told))]) [1, 2] rfl
        have hDc := hD.sub (ws' := [(m0, .inr (11, oX11 ra (upd x0 0 0))), (ra 2, .inl (kI, 8, .inl q_told))]) [1, 2] (by decide) rfl
        have hFc := va_free (wc := [(m0, .inr (11, oX11 ra (upd x0 0 0))), (ra 2, .inl (kI, 8, .inl q_told))]) hD hS hA [1, 2] rfl
        refine va_calli (va_runV (As := [.int p3]) (rest := []) ⟨hx, hb, hml, hown, hts⟩ (s11_isAddress l dC dI kB kI kJ kZ kC kS H.size m0 ra (upd x0 0 0) q_told p3 ((fI_u hX (k := 0) ((iv_w (iv_k (by decide) (by decide) : iv 0 0 0) (by decide) (by decide))))) (hq_told)) (cwV 1 hts gX11_edge_X11_isAddress rfl rfl rfl (by decide +kernel) ⟨Nat.le_of_ble_eq_true rfl, Nat.le_of_ble_eq_true rfl⟩) ⟨fun a U g mk q => by obtain ⟨q0, q1, qP, qE, qD⟩ := q; exact ⟨q0, q1, qP, kE_call qE, qD⟩, va_recv hK hP (ci := 11) (q0 := 1) rfl rfl, fun U hU hW => ⟨rfl, by rw [hU], by rw [hU]; exact hPc, kE_warm hW hE, hDc.weaken (fun _ _ _ _ => trivial)⟩⟩ rfl rfl hl.1 rfl (lv_room (Nat.le_of_ble_eq_true rfl)) dX11_edge_34 ⟨Nat.le_of_ble_eq_true rfl, Nat.le_of_ble_eq_true rfl⟩) hS (fun q _ h => hFc q h) hFc (fun r35 u t H1 locs ht hvm w36 hB hz1 hk1 hS => ?_)
        obtain ⟨hP1, hD1⟩ := hB
        rw [ht] at hP1
        try dsimp only at w36
        obtain ⟨hP, hD⟩ := va_join (wr := [(ra 11, .inl (kI, 1019, .inl q_now))]) (w1 := [(m0, .inr (11, oX11 ra (upd x0 0 0))), (ra 2, .inl (kI, 8, .inl q_told))]) hP hD [1, 2] [0] rfl rfl (by decide) (by decide) hk1 hFc hP1 hD1
        generalize H1 = H at hP hS ⊢
        have hP : va_P (dC, dI) vwCl [(ra 11, .inl (kI, 1019, .inl q_now)), (m0, .inr (11, oX11 ra (upd x0 0 0))), (ra 2, .inl (kI, 8, .inl q_told))] H := hP
        have hD : va_D A [(ra 11, .inl (kI, 1019, .inl q_now)), (m0, .inr (11, oX11 ra (upd x0 0 0))), (ra 2, .inl (kI, 8, .inl q_told))] := hD
        refine W.widen (k := 0) (n := 0) (Nat.le_of_ble_eq_true rfl) (Nat.le_of_ble_eq_true rfl) ?_
        refine lv_if_eq (tgt := 44) hx hb dX11_edge_37 (by decide) (fun c37 => ?_) (fun c37 => ?_)
        · have b38 : iv 0 0 r35 := iv_eqL c37 (iv_k (by decide) (by decide) : iv 0 0 0)
          refine lv_iconst (v := 0) hx hb dX11_edge_44 (by decide) ?_
          refine lv_istore (lv' := [(5, .int 0), (0, .ref m0), (1, .int p0), (2, .int p1), (3, .int p2), (4, .int p3)]) hx hb dX11_edge_45 hl (by decide) rfl (fun ls hl => ?_)
          refine lv_iload hx hb dX11_edge_47 (lv_at hl 0 rfl) ?_
          refine lv_if_eq (tgt := 72) hx hb dX11_edge_49 (by decide) (fun _ => ?_) (fun c9 => absurd (by decide) c9)
          refine lv_aload_n hx hb dX11_edge_72 rfl (lv_at hl 1 rfl) ?_
          refine lv_iconst (v := 1) hx hb dX11_edge_73 (by decide) ?_
          have hPc := hP.sub (ws' := [(m0, .inr (11, oX11 ra (upd x0 0 0)))]) [1] rfl
          have hDc := hD.sub (ws' := [(m0, .inr (11, oX11 ra (upd x0 0 0)))]) [1] (by decide) rfl
          have hFc := va_free (wc := [(m0, .inr (11, oX11 ra (upd x0 0 0)))]) hD hS hA [1] rfl
          refine va_calli (va_runV (As := [.int 1]) (rest := []) ⟨hx, hb, hml, hown, hts⟩ (s11_fail l dC dI kB kI kJ kZ kC kS H.size m0 ra (upd x0 0 0) 1 ((fI_u hX (k := 0) ((iv_w (iv_k (by decide) (by decide) : iv 0 0 0) (by decide) (by decide)))))) (cwV 1 hts gX11_edge_X11_fail rfl rfl rfl (by decide +kernel) ⟨Nat.le_of_ble_eq_true rfl, Nat.le_of_ble_eq_true rfl⟩) ⟨fun a U g mk q => by obtain ⟨q0, q1, qP, qE, qD⟩ := q; exact ⟨q0, q1, qP, kE_call qE, qD⟩, va_recv hK hP (ci := 11) (q0 := 1) rfl rfl, fun U hU hW => ⟨rfl, by rw [hU], by rw [hU]; exact hPc, kE_warm hW hE, hDc.weaken (fun _ _ _ _ => trivial)⟩⟩ rfl rfl hl.1 rfl (lv_room (Nat.le_of_ble_eq_true rfl)) dX11_edge_74 ⟨Nat.le_of_ble_eq_true rfl, Nat.le_of_ble_eq_true rfl⟩) hS (fun q _ h => hFc q h) hFc (fun r39 u t H1 locs ht hvm w40 hB hz1 hk1 hS => ?_)
          obtain ⟨y41, hq42, hq43, hP1, hD1⟩ := hB
          rw [ht] at hP1
          try dsimp only at w40
          obtain ⟨hP, hD⟩ := va_join (wr := [(ra 11, .inl (kI, 1019, .inl q_now)), (ra 2, .inl (kI, 8, .inl q_told))]) (w1 := [(m0, .inr (11, oX11 ra y41))]) hP hD [1] [0, 2] rfl rfl (by decide) (by decide) hk1 hFc hP1 hD1
          generalize H1 = H at hP hS ⊢
          have hP : va_P (dC, dI) vwCl [(ra 11, .inl (kI, 1019, .inl q_now)), (ra 2, .inl (kI, 8, .inl q_told)), (m0, .inr (11, oX11 ra y41))] H := hP
          have hD : va_D A [(ra 11, .inl (kI, 1019, .inl q_now)), (ra 2, .inl (kI, 8, .inl q_told)), (m0, .inr (11, oX11 ra y41))] := hD
          refine W.widen (k := 0) (n := 0) (Nat.le_of_ble_eq_true rfl) (Nat.le_of_ble_eq_true rfl) ?_
          obtain rfl : r39 = 0 := iv_one w40 (by decide)
          have hP9 := hP.sub (ws' := [(m0, .inr (11, oX11 ra y41)), (ra 2, .inl (kI, 8, .inl q_told)), (ra 11, .inl (kI, 1019, .inl q_now))]) [2, 1, 0] rfl
          have hD9 := hD.sub (ws' := [(m0, .inr (11, oX11 ra y41)), (ra 2, .inl (kI, 8, .inl q_told)), (ra 11, .inl (kI, 1019, .inl q_now))]) [2, 1, 0] (by decide) rfl
          exact W.iret (v := 0) hx hb hr (fun t ht hW => ⟨⟨0, (), rfl, (iv_w (iv_k (by decide) (by decide) : iv 0 0 0) (by decide) (by decide)), y41, hq42, by rw [ht]; exact hP9, hD9⟩, hS.F ht⟩) hS.2.2 dX11_edge_77
        · have b44 : iv 1 1 r35 := iv_neLo c37 w36.1 (iv_k (by decide) (by decide) : iv 0 0 0) (by decide) (by decide)
          have b45 : iv 0 20 p3 := (w36.2).resolve_left (iv_ne b44 (iv_k (by decide) (by decide) : iv 0 0 0) (by decide))
          refine lv_iconst (v := 1) hx hb dX11_edge_40 (by decide) ?_
          refine lv_goto (tgt := 45) hx hb dX11_edge_41 (by decide) ?_
          refine lv_istore (lv' := [(5, .int 1), (0, .ref m0), (1, .int p0), (2, .int p1), (3, .int p2), (4, .int p3)]) hx hb dX11_edge_45 hl (by decide) rfl (fun ls hl => ?_)
          refine lv_iload hx hb dX11_edge_47 (lv_at hl 0 rfl) ?_
          refine lv_if_eq (tgt := 72) hx hb dX11_edge_49 (by decide) (fun c9 => absurd c9 (by decide)) (fun _ => ?_)
          refine lv_aload_n hx hb dX11_edge_52 rfl (lv_at hl 1 rfl) ?_
          refine lv_iload_n hx hb dX11_edge_53 rfl (lv_at hl 2 rfl) ?_
          refine lv_iload_n hx hb dX11_edge_54 rfl (lv_at hl 3 rfl) ?_
          refine lv_iload_n hx hb dX11_edge_55 rfl (lv_at hl 4 rfl) ?_
          refine lv_iload hx hb dX11_edge_56 (lv_at hl 5 rfl) ?_
          have hPc := hP.sub (ws' := [(m0, .inr (11, oX11 ra (upd x0 0 0))), (ra 11, .inl (kI, 1019, .inl q_now))]) [1, 0] rfl
          have hDc := hD.sub (ws' := [(m0, .inr (11, oX11 ra (upd x0 0 0))), (ra 11, .inl (kI, 1019, .inl q_now))]) [1, 0] (by decide) rfl
          have hFc := va_free (wc := [(m0, .inr (11, oX11 ra (upd x0 0 0))), (ra 11, .inl (kI, 1019, .inl q_now))]) hD hS hA [1, 0] rfl
          refine va_calli (va_runV (As := [.int p0, .int p1, .int p2, .int p3]) (rest := []) ⟨hx, hb, hml, hown, hts⟩ (s11_isEdge l dC dI kB kI kJ kZ kC kS H.size m0 ra (upd x0 0 0) q_now p0 p1 p2 p3 ((fI_u hX (k := 0) ((iv_w (iv_k (by decide) (by decide) : iv 0 0 0) (by decide) (by decide))))) (hq_now) (b11) ((iv_w b23 (by decide) (by decide)))) (cwV 4 hts gX11_edge_X11_isEdge rfl rfl rfl (by decide +kernel) ⟨Nat.le_of_ble_eq_true rfl, Nat.le_of_ble_eq_true rfl⟩) ⟨fun a U g mk q => by obtain ⟨q0, q1, qP, qE, qD⟩ := q; exact ⟨q0, q1, qP, kE_call qE, qD⟩, va_recv hK hP (ci := 11) (q0 := 1) rfl rfl, fun U hU hW => ⟨rfl, by rw [hU], by rw [hU]; exact hPc, kE_warm hW hE, hDc.weaken (fun _ _ _ _ => trivial)⟩⟩ rfl rfl hl.1 rfl (lv_room (Nat.le_of_ble_eq_true rfl)) dX11_edge_58 ⟨Nat.le_of_ble_eq_true rfl, Nat.le_of_ble_eq_true rfl⟩) hS (fun q _ h => hFc q h) hFc (fun r46 u t H1 locs ht hvm w47 hB hz1 hk1 hS => ?_)
          obtain ⟨hP1, hD1⟩ := hB
          rw [ht] at hP1
          try dsimp only at w47
          obtain ⟨hP, hD⟩ := va_join (wr := [(ra 2, .inl (kI, 8, .inl q_told))]) (w1 := [(m0, .inr (11, oX11 ra (upd x0 0 0))), (ra 11, .inl (kI, 1019, .inl q_now))]) hP hD [1, 0] [2] rfl rfl (by decide) (by decide) hk1 hFc hP1 hD1
          generalize H1 = H at hP hS ⊢
          have hP : va_P (dC, dI) vwCl [(ra 2, .inl (kI, 8, .inl q_told)), (m0, .inr (11, oX11 ra (upd x0 0 0))), (ra 11, .inl (kI, 1019, .inl q_now))] H := hP
          have hD : va_D A [(ra 2, .inl (kI, 8, .inl q_told)), (m0, .inr (11, oX11 ra (upd x0 0 0))), (ra 11, .inl (kI, 1019, .inl q_now))] := hD
          refine W.widen (k := 0) (n := 0) (Nat.le_of_ble_eq_true rfl) (Nat.le_of_ble_eq_true rfl) ?_
          refine lv_if_eq (tgt := 68) hx hb dX11_edge_61 (by decide) (fun c48 => ?_) (fun c48 => ?_)
          · have b49 : iv 0 0 r46 := iv_eqL c48 (iv_k (by decide) (by decide) : iv 0 0 0)
            refine lv_iconst (v := 0) hx hb dX11_edge_68 (by decide) ?_
            refine lv_goto (tgt := 77) hx hb dX11_edge_69 (by decide) ?_
            have hP9 := hP.sub (ws' := [(m0, .inr (11, oX11 ra (upd x0 0 0))), (ra 2, .inl (kI, 8, .inl q_told)), (ra 11, .inl (kI, 1019, .inl q_now))]) [1, 0, 2] rfl
            have hD9 := hD.sub (ws' := [(m0, .inr (11, oX11 ra (upd x0 0 0))), (ra 2, .inl (kI, 8, .inl q_told)), (ra 11, .inl (kI, 1019, .inl q_now))]) [1, 0, 2] (by decide) rfl
            exact W.iret (v := 0) hx hb hr (fun t ht hW => ⟨⟨0, (), rfl, (iv_w (iv_k (by decide) (by decide) : iv 0 0 0) (by decide) (by decide)), upd x0 0 0, (fI_u hX (k := 0) ((iv_w (iv_k (by decide) (by decide) : iv 0 0 0) (by decide) (by decide)))), by rw [ht]; exact hP9, hD9⟩, hS.F ht⟩) hS.2.2 dX11_edge_77
          · have b50 : iv 1 1 r46 := iv_neLo c48 w47 (iv_k (by decide) (by decide) : iv 0 0 0) (by decide) (by decide)
            refine lv_iconst (v := 1) hx hb dX11_edge_64 (by decide) ?_
            refine lv_goto (tgt := 77) hx hb dX11_edge_65 (by decide) ?_
            have hP9 := hP.sub (ws' := [(m0, .inr (11, oX11 ra (upd x0 0 0))), (ra 2, .inl (kI, 8, .inl q_told)), (ra 11, .inl (kI, 1019, .inl q_now))]) [1, 0, 2] rfl
            have hD9 := hD.sub (ws' := [(m0, .inr (11, oX11 ra (upd x0 0 0))), (ra 2, .inl (kI, 8, .inl q_told)), (ra 11, .inl (kI, 1019, .inl q_now))]) [1, 0, 2] (by decide) rfl
            exact W.iret (v := 1) hx hb hr (fun t ht hW => ⟨⟨1, (), rfl, (iv_w (iv_k (by decide) (by decide) : iv 1 1 1) (by decide) (by decide)), upd x0 0 0, (fI_u hX (k := 0) ((iv_w (iv_k (by decide) (by decide) : iv 0 0 0) (by decide) (by decide)))), by rw [ht]; exact hP9, hD9⟩, hS.F ht⟩) hS.2.2 dX11_edge_77
def rm_s11_diamond : Room := { frames := 5, cells := 0, slots := 0, locals := 125 }
set_option maxHeartbeats 4000000 in
set_option maxRecDepth 100000 in
theorem s11_diamond (l : Launch) (dC : Nat → ClassId) (dI : Nat → Nat → Nat) (kB kI kJ kZ kC kS : ClassId) (sz : Nat) (m0 : Nat) (ra : Nat → Nat) (x0 : Nat → Int32) (q_told : Nat → Int32) (q_now : Nat → Int32) (q_wide : Nat → Int32) (q_diamondFrom : Nat → Int32) (q_diamondTo : Nat → Int32) (p0 : Int32) (p1 : Int32) (p2 : Int32) (hX : fI lX11 hX11 x0) (hq_told : fI lTold hTold q_told) (hq_now : fI lNow hNow q_now) (hq_diamondFrom : fI (fun _ => 0) (fun _ => 10) q_diamondFrom) (hq_diamondTo : fI (fun _ => 0) (fun _ => 10) q_diamondTo) : Met l yX11_diamond wsX11_diamond rm_s11_diamond (va_Pc [.ref m0, .int p0, .int p1, .int p2] (fun U => U.heap.size = sz ∧ va_P (dC, dI) vwCl [(m0, .inr (11, oX11 ra x0)), (ra 2, .inl (kI, 8, .inl q_told)), (ra 11, .inl (kI, 1019, .inl q_now)), (ra 19, .inl (kI, 12, .inl q_wide)), (ra 20, .inl (kI, 10, .inl q_diamondFrom)), (ra 21, .inl (kI, 10, .inl q_diamondTo))] U.heap ∧ kE dC dI kB kI kJ kZ kC kS U ∧ va_D (fun _ => True) [(m0, .inr (11, oX11 ra x0)), (ra 2, .inl (kI, 8, .inl q_told)), (ra 11, .inl (kI, 1019, .inl q_now)), (ra 19, .inl (kI, 12, .inl q_wide)), (ra 20, .inl (kI, 10, .inl q_diamondFrom)), (ra 21, .inl (kI, 10, .inl q_diamondTo))])) (va_Qi (fun (r : Int32) (_ : Unit) => iv 0 2147483647 r) (fun _ t => ∃ (x0' : Nat → Int32) (q_wide' : Nat → Int32) (q_diamondFrom' : Nat → Int32) (q_diamondTo' : Nat → Int32), fI lX11 hX11 x0' ∧ fI (fun _ => 0) (fun _ => 10) q_diamondFrom' ∧ fI (fun _ => 0) (fun _ => 10) q_diamondTo' ∧ va_P (dC, dI) vwCl [(m0, .inr (11, oX11 ra x0')), (ra 2, .inl (kI, 8, .inl q_told)), (ra 11, .inl (kI, 1019, .inl q_now)), (ra 19, .inl (kI, 12, .inl q_wide')), (ra 20, .inl (kI, 10, .inl q_diamondFrom')), (ra 21, .inl (kI, 10, .inl q_diamondTo'))] t.heap ∧ va_D (va_A [(m0, .inr (11, oX11 ra x0)), (ra 2, .inl (kI, 8, .inl q_told)), (ra 11, .inl (kI, 1019, .inl q_now)), (ra 19, .inl (kI, 12, .inl q_wide)), (ra 20, .inl (kI, 10, .inl q_diamondFrom)), (ra 21, .inl (kI, 10, .inl q_diamondTo))] sz) [(m0, .inr (11, oX11 ra x0')), (ra 2, .inl (kI, 8, .inl q_told)), (ra 11, .inl (kI, 1019, .inl q_now)), (ra 19, .inl (kI, 12, .inl q_wide')), (ra 20, .inl (kI, 10, .inl q_diamondFrom')), (ra 21, .inl (kI, 10, .inl q_diamondTo'))]) (va_A [(m0, .inr (11, oX11 ra x0)), (ra 2, .inl (kI, 8, .inl q_told)), (ra 11, .inl (kI, 1019, .inl q_now)), (ra 19, .inl (kI, 12, .inl q_wide)), (ra 20, .inl (kI, 10, .inl q_diamondFrom)), (ra 21, .inl (kI, 10, .inl q_diamondTo))] sz)) 0 0 (va_A [(m0, .inr (11, oX11 ra x0)), (ra 2, .inl (kI, 8, .inl q_told)), (ra 11, .inl (kI, 1019, .inl q_now)), (ra 19, .inl (kI, 12, .inl q_wide)), (ra 20, .inl (kI, 10, .inl q_diamondFrom)), (ra 21, .inl (kI, 10, .inl q_diamondTo))] sz) := by
  refine Met.ofW (cc := cX11_diamond) (maxL := 4) (ret := (some .int)) (by decide) rfl ?_
  intro p e s m args0 below meth c s₁ B hml hv
  obtain ⟨hargs, hsz, hP, hE, hD0⟩ := hv
  have hx := B.exec
  have hb := B.bytes
  have hr := B.returns
  have hts := atoms_spec (ws := wsX11_diamond) B.pre
  have hown : s.vm.findClass RX11 = some m.cls := findClass_of_methodNamed B.named
  have hlocks := B.notSynchronized
  have hK := hE.1
  have hin11 : ∀ w ∈ wsX110, w ∈ wsX11_diamond := fun _ h9 => List.mem_cons_of_mem _ (List.mem_append_right _ h9)
  have hw_0 := hts (.fieldLink RX11 142 "PathProberModel" "code" "I") (List.mem_of_getElem? (i := 1) (by decide +kernel))
  have hw_1 := hts (.fieldLink RX11 416 "PathProberModel" "diamonds" "I") (List.mem_of_getElem? (i := 2) (by decide +kernel))
  have hw_2 := hts (.fieldLink RX11 100 "PathProberModel" "diamondTo" "[I") (List.mem_of_getElem? (i := 4) (by decide +kernel))
  have hw_3 := hts (.fieldLink RX11 97 "PathProberModel" "diamondFrom" "[I") (List.mem_of_getElem? (i := 3) (by decide +kernel))
  subst hsz
  have hD := hD0.self (sz := s.heap.size)
  generalize hAe : va_A [(m0, .inr (11, oX11 ra x0)), (ra 2, .inl (kI, 8, .inl q_told)), (ra 11, .inl (kI, 1019, .inl q_now)), (ra 19, .inl (kI, 12, .inl q_wide)), (ra 20, .inl (kI, 10, .inl q_diamondFrom)), (ra 21, .inl (kI, 10, .inl q_diamondTo))] s.heap.size = A at hD ⊢
  have hA : ∀ q : Nat, s.heap.size ≤ q → A q := fun q h => by rw [← hAe]; exact Or.inr h
  have hS : va_S A s.heap s.heap [] := va_S.rf
  have hP : va_P (dC, dI) vwCl [(m0, .inr (11, oX11 ra x0)), (ra 2, .inl (kI, 8, .inl q_told)), (ra 11, .inl (kI, 1019, .inl q_now)), (ra 19, .inl (kI, 12, .inl q_wide)), (ra 20, .inl (kI, 10, .inl q_diamondFrom)), (ra 21, .inl (kI, 10, .inl q_diamondTo))] s.heap := hP
  have hl := lv_entry ([.ref m0, .int p0, .int p1, .int p2]) (n := 4) (Nat.le_of_ble_eq_true rfl)
  have hla : entryFrame m args0 4 = entryFrame m ([.ref m0, .int p0, .int p1, .int p2] : List Value).toArray 4 := by rw [hargs]
  rw [hla, lg_entry_eq]
  generalize (lg_sl ([.ref m0, .int p0, .int p1, .int p2]) ++ List.replicate (4 - (lg_sl ([.ref m0, .int p0, .int p1, .int p2])).length) Slot.unset).toArray = ls at hl ⊢
  have hl : lv_has ls 4 [(0, .ref m0), (1, .int p0), (2, .int p1), (3, .int p2)] := hl
  have hJ47 : ∀ (y47_0 : Nat → Int32) (g47_3 : Nat → Int32) (g47_4 : Nat → Int32) (g47_5 : Nat → Int32) (H : Heap) (locs : List Loc) (ls : Array Slot), fI lX11 hX11 y47_0 → fI (fun _ => 0) (fun _ => 10) g47_4 → fI (fun _ => 0) (fun _ => 10) g47_5 → iv 0 2 p0 → va_P (dC, dI) vwCl [(m0, .inr (11, oX11 ra y47_0)), (ra 2, .inl (kI, 8, .inl q_told)), (ra 11, .inl (kI, 1019, .inl q_now)), (ra 19, .inl (kI, 12, .inl g47_3)), (ra 20, .inl (kI, 10, .inl g47_4)), (ra 21, .inl (kI, 10, .inl g47_5))] H → va_D A [(m0, .inr (11, oX11 ra y47_0)), (ra 2, .inl (kI, 8, .inl q_told)), (ra 11, .inl (kI, 1019, .inl q_now)), (ra 19, .inl (kI, 12, .inl g47_3)), (ra 20, .inl (kI, 10, .inl g47_4)), (ra 21, .inl (kI, 10, .inl g47_5))] → va_S A s.heap H locs → lv_has ls 4 [(0, .ref m0), (1, .int p0), (2, .int p1), (3, .int p2)] → W p l e (headSpec wsX11_diamond rm_s11_diamond).room s m args0 below meth c H locs (0) (0) (MQ below (va_Qi (fun (r : Int32) (_ : Unit) => iv 0 2147483647 r) (fun _ t => ∃ (x0' : Nat → Int32) (q_wide' : Nat → Int32) (q_diamondFrom' : Nat → Int32) (q_diamondTo' : Nat → Int32), fI lX11 hX11 x0' ∧ fI (fun _ => 0) (fun _ => 10) q_diamondFrom' ∧ fI (fun _ => 0) (fun _ => 10) q_diamondTo' ∧ va_P (dC, dI) vwCl [(m0, .inr (11, oX11 ra x0')), (ra 2, .inl (kI, 8, .inl q_told)), (ra 11, .inl (kI, 1019, .inl q_now)), (ra 19, .inl (kI, 12, .inl q_wide')), (ra 20, .inl (kI, 10, .inl q_diamondFrom')), (ra 21, .inl (kI, 10, .inl q_diamondTo'))] t.heap ∧ va_D A [(m0, .inr (11, oX11 ra x0')), (ra 2, .inl (kI, 8, .inl q_told)), (ra 11, .inl (kI, 1019, .inl q_now)), (ra 19, .inl (kI, 12, .inl q_wide')), (ra 20, .inl (kI, 10, .inl q_diamondFrom')), (ra 21, .inl (kI, 10, .inl q_diamondTo'))]) A) args0 s 0 0 A) (F0 m 47 ls []) := by
    intro y47_0 g47_3 g47_4 g47_5 H locs ls hI47_0 hI47_4 hI47_5 h47_4 hP hD hS hl
    refine lv_aload_n hx hb dX11_diamond_47 rfl (lv_at hl 0 rfl) ?_
    refine lv_iconst (v := 1) hx hb dX11_diamond_48 (by decide) ?_
    have hPc := hP.sub (ws' := [(m0, .inr (11, oX11 ra y47_0))]) [0] rfl
    have hDc := hD.sub (ws' := [(m0, .inr (11, oX11 ra y47_0))]) [0] (by decide) rfl
    have hFc := va_free (wc := [(m0, .inr (11, oX11 ra y47_0))]) hD hS hA [0] rfl
    refine va_calli (va_runV (As := [.int 1]) (rest := []) ⟨hx, hb, hml, hown, hts⟩ (s11_fail l dC dI kB kI kJ kZ kC kS H.size m0 ra y47_0 1 (hI47_0)) (cwV 1 hts gX11_diamond_X11_fail rfl rfl rfl (by decide +kernel) ⟨Nat.le_of_ble_eq_true rfl, Nat.le_of_ble_eq_true rfl⟩) ⟨fun a U g mk q => by obtain ⟨q0, q1, qP, qE, qD⟩ := q; exact ⟨q0, q1, qP, kE_call qE, qD⟩, va_recv hK hP (ci := 11) (q0 := 0) rfl rfl, fun U hU hW => ⟨rfl, by rw [hU], by rw [hU]; exact hPc, kE_warm hW hE, hDc.weaken (fun _ _ _ _ => trivial)⟩⟩ rfl rfl hl.1 rfl (lv_room (Nat.le_of_ble_eq_true rfl)) dX11_diamond_49 ⟨Nat.le_of_ble_eq_true rfl, Nat.le_of_ble_eq_true rfl⟩) hS (fun q _ h => hFc q h) hFc (fun r1 u t H1 locs ht hvm w2 hB hz1 hk1 hS => ?_)
    obtain ⟨y3, hq4, hq5, hP1, hD1⟩ := hB
    rw [ht] at hP1
    try dsimp only at w2
    obtain ⟨hP, hD⟩ := va_join (wr := [(ra 2, .inl (kI, 8, .inl q_told)), (ra 11, .inl (kI, 1019, .inl q_now)), (ra 19, .inl (kI, 12, .inl g47_3)), (ra 20, .inl (kI, 10, .inl g47_4)), (ra 21, .inl (kI, 10, .inl g47_5))]) (w1 := [(m0, .inr (11, oX11 ra y3))]) hP hD [0] [1, 2, 3, 4, 5] rfl rfl (by decide) (by decide) hk1 hFc hP1 hD1
    generalize H1 = H at hP hS ⊢
    have hP : va_P (dC, dI) vwCl [(ra 2, .inl (kI, 8, .inl q_told)), (ra 11, .inl (kI, 1019, .inl q_now)), (ra 19, .inl (kI, 12, .inl g47_3)), (ra 20, .inl (kI, 10, .inl g47_4)), (ra 21, .inl (kI, 10, .inl g47_5)), (m0, .inr (11, oX11 ra y3))] H := hP
    have hD : va_D A [(ra 2, .inl (kI, 8, .inl q_told)), (ra 11, .inl (kI, 1019, .inl q_now)), (ra 19, .inl (kI, 12, .inl g47_3)), (ra 20, .inl (kI, 10, .inl g47_4)), (ra 21, .inl (kI, 10, .inl g47_5)), (m0, .inr (11, oX11 ra y3))] := hD
    refine W.widen (k := 0) (n := 0) (Nat.le_of_ble_eq_true rfl) (Nat.le_of_ble_eq_true rfl) ?_
    obtain rfl : r1 = 0 := iv_one w2 (by decide)
    have hP9 := hP.sub (ws' := [(m0, .inr (11, oX11 ra y3)), (ra 2, .inl (kI, 8, .inl q_told)), (ra 11, .inl (kI, 1019, .inl q_now)), (ra 19, .inl (kI, 12, .inl g47_3)), (ra 20, .inl (kI, 10, .inl g47_4)), (ra 21, .inl (kI, 10, .inl g47_5))]) [5, 0, 1, 2, 3, 4] rfl
    have hD9 := hD.sub (ws' := [(m0, .inr (11, oX11 ra y3)), (ra 2, .inl (kI, 8, .inl q_told)), (ra 11, .inl (kI, 1019, .inl q_now)), (ra 19, .inl (kI, 12, .inl g47_3)), (ra 20, .inl (kI, 10, .inl g47_4)), (ra 21, .inl (kI, 10, .inl g47_5))]) [5, 0, 1, 2, 3, 4] (by decide) rfl
    exact W.iret (v := 0) hx hb hr (fun t ht hW => ⟨⟨0, (), rfl, (iv_w (iv_k (by decide) (by decide) : iv 0 0 0) (by decide) (by decide)), y3, g47_3, g47_4, g47_5, hq4, hI47_4, hI47_5, by rw [ht]; exact hP9, hD9⟩, hS.F ht⟩) hS.2.2 dX11_diamond_52
  refine lv_aload_n hx hb dX11_diamond_0 rfl (lv_at hl 0 rfl) ?_
  refine lv_iconst (v := 0) hx hb dX11_diamond_1 (by decide) ?_
  refine va_put (D := (dC, dI)) (ci := 11) (v := .int 0) (ty := .int) (C := RX11) (T := TX11) (N := 61) hx hb hts hin11 tyX11 tyX11_ok nmX11 hown hK hP hD hS 0 rfl rfl 2 (by decide) hw_0 (fun _ h9 => h9) rfl (by decide +kernel) rfl rfl (Nat.le_of_ble_eq_true rfl) dX11_diamond_2 (fun H locs hP hD hS => ?_)
  have hP : va_P (dC, dI) vwCl [(m0, .inr (11, oX11 ra (upd x0 0 0))), (ra 2, .inl (kI, 8, .inl q_told)), (ra 11, .inl (kI, 1019, .inl q_now)), (ra 19, .inl (kI, 12, .inl q_wide)), (ra 20, .inl (kI, 10, .inl q_diamondFrom)), (ra 21, .inl (kI, 10, .inl q_diamondTo))] H := hP
  have hD : va_D A [(m0, .inr (11, oX11 ra (upd x0 0 0))), (ra 2, .inl (kI, 8, .inl q_told)), (ra 11, .inl (kI, 1019, .inl q_now)), (ra 19, .inl (kI, 12, .inl q_wide)), (ra 20, .inl (kI, 10, .inl q_diamondFrom)), (ra 21, .inl (kI, 10, .inl q_diamondTo))] := hD
  refine lv_aload_n hx hb dX11_diamond_5 rfl (lv_at hl 0 rfl) ?_
  refine lv_iload_n hx hb dX11_diamond_6 rfl (lv_at hl 1 rfl) ?_
  have hPc := hP.sub (ws' := [(m0, .inr (11, oX11 ra (upd x0 0 0))), (ra 2, .inl (kI, 8, .inl q_told))]) [0, 1] rfl
  have hDc := hD.sub (ws' := [(m0, .inr (11, oX11 ra (upd x0 0 0))), (ra 2, .inl (kI, 8, .inl q_told))]) [0, 1] (by decide) rfl
  have hFc := va_free (wc := [(m0, .inr (11, oX11 ra (upd x0 0 0))), (ra 2, .inl (kI, 8, .inl q_told))]) hD hS hA [0, 1] rfl
  refine va_calli (va_runV (As := [.int p0]) (rest := []) ⟨hx, hb, hml, hown, hts⟩ (s11_isGoal l dC dI kB kI kJ kZ kC kS H.size m0 ra (upd x0 0 0) q_told p0 ((fI_u hX (k := 0) ((iv_w (iv_k (by decide) (by decide) : iv 0 0 0) (by decide) (by decide))))) (hq_told)) (cwV 1 hts gX11_diamond_X11_isGoal rfl rfl rfl (by decide +kernel) ⟨Nat.le_of_ble_eq_true rfl, Nat.le_of_ble_eq_true rfl⟩) ⟨fun a U g mk q => by obtain ⟨q0, q1, qP, qE, qD⟩ := q; exact ⟨q0, q1, qP, kE_call qE, qD⟩, va_recv hK hP (ci := 11) (q0 := 0) rfl rfl, fun U hU hW => ⟨rfl, by rw [hU], by rw [hU]; exact hPc, kE_warm hW hE, hDc.weaken (fun _ _ _ _ => trivial)⟩⟩ rfl rfl hl.1 rfl (lv_room (Nat.le_of_ble_eq_true rfl)) dX11_diamond_7 ⟨Nat.le_of_ble_eq_true rfl, Nat.le_of_ble_eq_true rfl⟩) hS (fun q _ h => hFc q h) hFc (fun r6 u t H1 locs ht hvm w7 hB hz1 hk1 hS => ?_)
  obtain ⟨hP1, hD1⟩ := hB
  rw [ht] at hP1
  try dsimp only at w7
  obtain ⟨hP, hD⟩ := va_join (wr := [(ra 11, .inl (kI, 1019, .inl q_now)), (ra 19, .inl (kI, 12, .inl q_wide)), (ra 20, .inl (kI, 10, .inl q_diamondFrom)), (ra 21, .inl (kI, 10, .inl q_diamondTo))]) (w1 := [(m0, .inr (11, oX11 ra (upd x0 0 0))), (ra 2, .inl (kI, 8, .inl q_told))]) hP hD [0, 1] [2, 3, 4, 5] rfl rfl (by decide) (by decide) hk1 hFc hP1 hD1
  generalize H1 = H at hP hS ⊢
  have hP : va_P (dC, dI) vwCl [(ra 11, .inl (kI, 1019, .inl q_now)), (ra 19, .inl (kI, 12, .inl q_wide)), (ra 20, .inl (kI, 10, .inl q_diamondFrom)), (ra 21, .inl (kI, 10, .inl q_diamondTo)), (m0, .inr (11, oX11 ra (upd x0 0 0))), (ra 2, .inl (kI, 8, .inl q_told))] H := hP
  have hD : va_D A [(ra 11, .inl (kI, 1019, .inl q_now)), (ra 19, .inl (kI, 12, .inl q_wide)), (ra 20, .inl (kI, 10, .inl q_diamondFrom)), (ra 21, .inl (kI, 10, .inl q_diamondTo)), (m0, .inr (11, oX11 ra (upd x0 0 0))), (ra 2, .inl (kI, 8, .inl q_told))] := hD
  refine W.widen (k := 0) (n := 0) (Nat.le_of_ble_eq_true rfl) (Nat.le_of_ble_eq_true rfl) ?_
  refine lv_if_ne (tgt := 19) hx hb dX11_diamond_10 (by decide) (fun c8 => ?_) (fun c8 => ?_)
  · have b9 : iv 1 1 r6 := iv_neLo c8 w7.1 (iv_k (by decide) (by decide) : iv 0 0 0) (by decide) (by decide)
    have b10 : iv 0 2 p0 := (w7.2).resolve_left (iv_ne b9 (iv_k (by decide) (by decide) : iv 0 0 0) (by decide))
    refine lv_aload_n hx hb dX11_diamond_19 rfl (lv_at hl 0 rfl) ?_
    refine lv_iload_n hx hb dX11_diamond_20 rfl (lv_at hl 1 rfl) ?_
    have hPc := hP.sub (ws' := [(m0, .inr (11, oX11 ra (upd x0 0 0))), (ra 11, .inl (kI, 1019, .inl q_now)), (ra 19, .inl (kI, 12, .inl q_wide)), (ra 20, .inl (kI, 10, .inl q_diamondFrom)), (ra 21, .inl (kI, 10, .inl q_diamondTo))]) [4, 0, 1, 2, 3] rfl
    have hDc := hD.sub (ws' := [(m0, .inr (11, oX11 ra (upd x0 0 0))), (ra 11, .inl (kI, 1019, .inl q_now)), (ra 19, .inl (kI, 12, .inl q_wide)), (ra 20, .inl (kI, 10, .inl q_diamondFrom)), (ra 21, .inl (kI, 10, .inl q_diamondTo))]) [4, 0, 1, 2, 3] (by decide) rfl
    have hFc := va_free (wc := [(m0, .inr (11, oX11 ra (upd x0 0 0))), (ra 11, .inl (kI, 1019, .inl q_now)), (ra 19, .inl (kI, 12, .inl q_wide)), (ra 20, .inl (kI, 10, .inl q_diamondFrom)), (ra 21, .inl (kI, 10, .inl q_diamondTo))]) hD hS hA [4, 0, 1, 2, 3] rfl
    refine va_callv (va_runV (As := [.int p0]) (rest := []) ⟨hx, hb, hml, hown, hts⟩ (s11_tellDiamonds l dC dI kB kI kJ kZ kC kS H.size m0 ra (upd x0 0 0) q_now q_wide q_diamondFrom q_diamondTo p0 ((fI_u hX (k := 0) ((iv_w (iv_k (by decide) (by decide) : iv 0 0 0) (by decide) (by decide))))) (hq_now) (hq_diamondFrom) (hq_diamondTo) (b10)) (cwV 1 hts gX11_diamond_X11_tellDiamonds rfl rfl rfl (by decide +kernel) ⟨Nat.le_of_ble_eq_true rfl, Nat.le_of_ble_eq_true rfl⟩) ⟨fun a U g mk q => by obtain ⟨q0, q1, qP, qE, qD⟩ := q; exact ⟨q0, q1, qP, kE_call qE, qD⟩, va_recv hK hP (ci := 11) (q0 := 4) rfl rfl, fun U hU hW => ⟨rfl, by rw [hU], by rw [hU]; exact hPc, kE_warm hW hE, hDc.weaken (fun _ _ _ _ => trivial)⟩⟩ rfl rfl hl.1 rfl (lv_room (Nat.le_of_ble_eq_true rfl)) dX11_diamond_21 ⟨Nat.le_of_ble_eq_true rfl, Nat.le_of_ble_eq_true rfl⟩) hS (fun q _ h => hFc q h) hFc (fun u t H1 locs ht hvm w12 hB hz1 hk1 hS => ?_)
    obtain ⟨y13, f14, f15, f16, hq17, hq18, hq19, hP1, hD1⟩ := hB
    rw [ht] at hP1
    try dsimp only at w12
    obtain ⟨hP, hD⟩ := va_join (wr := [(ra 2, .inl (kI, 8, .inl q_told))]) (w1 := [(m0, .inr (11, oX11 ra y13)), (ra 11, .inl (kI, 1019, .inl q_now)), (ra 19, .inl (kI, 12, .inl f14)), (ra 20, .inl (kI, 10, .inl f15)), (ra 21, .inl (kI, 10, .inl f16))]) hP hD [4, 0, 1, 2, 3] [5] rfl rfl (by decide) (by decide) hk1 hFc hP1 hD1
    generalize H1 = H at hP hS ⊢
    have hP : va_P (dC, dI) vwCl [(ra 2, .inl (kI, 8, .inl q_told)), (m0, .inr (11, oX11 ra y13)), (ra 11, .inl (kI, 1019, .inl q_now)), (ra 19, .inl (kI, 12, .inl f14)), (ra 20, .inl (kI, 10, .inl f15)), (ra 21, .inl (kI, 10, .inl f16))] H := hP
    have hD : va_D A [(ra 2, .inl (kI, 8, .inl q_told)), (m0, .inr (11, oX11 ra y13)), (ra 11, .inl (kI, 1019, .inl q_now)), (ra 19, .inl (kI, 12, .inl f14)), (ra 20, .inl (kI, 10, .inl f15)), (ra 21, .inl (kI, 10, .inl f16))] := hD
    refine W.widen (k := 0) (n := 0) (Nat.le_of_ble_eq_true rfl) (Nat.le_of_ble_eq_true rfl) ?_
    refine lv_iload_n hx hb dX11_diamond_24 rfl (lv_at hl 2 rfl) ?_
    refine lv_iconst (v := (-1)) hx hb dX11_diamond_25 (by decide) ?_
    refine lv_aload_n hx hb dX11_diamond_26 rfl (lv_at hl 0 rfl) ?_
    refine va_get (D := (dC, dI)) (ci := 11) (v := .int (y13 18)) (C := RX11) (T := TX11) (N := 61) hx hb hts hin11 hown hK hP 1 rfl rfl 40 (by decide) hw_1 (fun _ h9 => h9) rfl dX11_diamond_27 ?_
    refine lv_iconst (v := 1) hx hb dX11_diamond_30 (by decide) ?_
    refine lv_isub hx hb dX11_diamond_31 ?_
    refine iv_top (a := (-1)) (b := 9) (iv_sub (hq17 18 : iv 0 10 (y13 18)) (iv_k (by decide) (by decide) : iv 1 1 1) (by decide) (by decide) (by decide) (by decide)) (fun z20 b21 => ?_)
    have hPc := hP.sub (ws' := []) [] rfl
    have hDc := hD.sub (ws' := []) [] (by decide) rfl
    have hFc := va_free (wc := []) hD hS hA [] rfl
    refine va_calli (va_runS (As := [.int p1, .int (-1), .int z20]) (rest := []) ⟨hx, hb, hml, hown, hts⟩ (s11_isIn l dC dI kB kI kJ kZ kC kS H.size p1 (-1) z20) (va_cwS 3 hts gX11_diamond_X11_isIn rfl rfl rfl (by decide +kernel) ⟨Nat.le_of_ble_eq_true rfl, Nat.le_of_ble_eq_true rfl⟩) ⟨fun a U g mk q => by obtain ⟨q0, q1, qP, qE, qD⟩ := q; exact ⟨q0, q1, qP, kE_call qE, qD⟩, fun U hU hW => ⟨rfl, by rw [hU], by rw [hU]; exact hPc, kE_warm hW hE, hDc.weaken (fun _ _ _ _ => trivial)⟩⟩ rfl rfl hl.1 rfl (lv_room (Nat.le_of_ble_eq_true rfl)) dX11_diamond_32 ⟨Nat.le_of_ble_eq_true rfl, Nat.le_of_ble_eq_true rfl⟩) hS (fun q _ h => hFc q h) hFc (fun r22 u t H1 locs ht hvm w23 hB hz1 hk1 hS => ?_)
    obtain ⟨hP1, hD1⟩ := hB
    rw [ht] at hP1
    try dsimp only at w23
    obtain ⟨hP, hD⟩ := va_join (wr := [(ra 2, .inl (kI, 8, .inl q_told)), (m0, .inr (11, oX11 ra y13)), (ra 11, .inl (kI, 1019, .inl q_now)), (ra 19, .inl (kI, 12, .inl f14)), (ra 20, .inl (kI, 10, .inl f15)), (ra 21, .inl (kI, 10, .inl f16))]) (w1 := []) hP hD [] [0, 1, 2, 3, 4, 5] rfl rfl (by decide) (by decide) hk1 hFc hP1 hD1
    generalize H1 = H at hP hS ⊢
    have hP : va_P (dC, dI) vwCl [(ra 2, .inl (kI, 8, .inl q_told)), (m0, .inr (11, oX11 ra y13)), (ra 11, .inl (kI, 1019, .inl q_now)), (ra 19, .inl (kI, 12, .inl f14)), (ra 20, .inl (kI, 10, .inl f15)), (ra 21, .inl (kI, 10, .inl f16))] H := hP
    have hD : va_D A [(ra 2, .inl (kI, 8, .inl q_told)), (m0, .inr (11, oX11 ra y13)), (ra 11, .inl (kI, 1019, .inl q_now)), (ra 19, .inl (kI, 12, .inl f14)), (ra 20, .inl (kI, 10, .inl f15)), (ra 21, .inl (kI, 10, .inl f16))] := hD
    refine W.widen (k := 0) (n := 0) (Nat.le_of_ble_eq_true rfl) (Nat.le_of_ble_eq_true rfl) ?_
    refine lv_if_eq (tgt := 47) hx hb dX11_diamond_35 (by decide) (fun c24 => ?_) (fun c24 => ?_)
    · have b25 : iv 0 0 r22 := iv_eqL c24 (iv_k (by decide) (by decide) : iv 0 0 0)
      exact hJ47 y13 f14 f15 f16 _ _ _ (hq17) (hq18) (hq19) (b10) (hP.sub [1, 0, 2, 3, 4, 5] rfl) (hD.sub [1, 0, 2, 3, 4, 5] (by decide) rfl) hS (lv_sub hl [0, 1, 2, 3] rfl)
    · have b26 : iv 1 1 r22 := iv_neLo c24 w23.1 (iv_k (by decide) (by decide) : iv 0 0 0) (by decide) (by decide)
      have hr27 := (w23.2).resolve_left (iv_ne b26 (iv_k (by decide) (by decide) : iv 0 0 0) (by decide))
      have b28 : iv (-1) 9 p1 := iv_cap (in_iv hr27 (iv_k (by decide) (by decide) : iv (-1) (-1) (-1)) b21) (iv_t p1) (by decide) (by decide)
      refine lv_iload_n hx hb dX11_diamond_38 rfl (lv_at hl 3 rfl) ?_
      refine lv_iconst (v := 0) hx hb dX11_diamond_39 (by decide) ?_
      refine lv_iconst (v := 3) hx hb dX11_diamond_40 (by decide) ?_
      have hPc := hP.sub (ws' := []) [] rfl
      have hDc := hD.sub (ws' := []) [] (by decide) rfl
      have hFc := va_free (wc := []) hD hS hA [] rfl
      refine va_calli (va_runS (As := [.int p2, .int 0, .int 3]) (rest := []) ⟨hx, hb, hml, hown, hts⟩ (s11_isIn l dC dI kB kI kJ kZ kC kS H.size p2 0 3) (va_cwS 3 hts gX11_diamond_X11_isIn rfl rfl rfl (by decide +kernel) ⟨Nat.le_of_ble_eq_true rfl, Nat.le_of_ble_eq_true rfl⟩) ⟨fun a U g mk q => by obtain ⟨q0, q1, qP, qE, qD⟩ := q; exact ⟨q0, q1, qP, kE_call qE, qD⟩, fun U hU hW => ⟨rfl, by rw [hU], by rw [hU]; exact hPc, kE_warm hW hE, hDc.weaken (fun _ _ _ _ => trivial)⟩⟩ rfl rfl hl.1 rfl (lv_room (Nat.le_of_ble_eq_true rfl)) dX11_diamond_41 ⟨Nat.le_of_ble_eq_true rfl, Nat.le_of_ble_eq_true rfl⟩) hS (fun q _ h => hFc q h) hFc (fun r29 u t H1 locs ht hvm w30 hB hz1 hk1 hS => ?_)
      obtain ⟨hP1, hD1⟩ := hB
      rw [ht] at hP1
      try dsimp only at w30
      obtain ⟨hP, hD⟩ := va_join (wr := [(ra 2, .inl (kI, 8, .inl q_told)), (m0, .inr (11, oX11 ra y13)), (ra 11, .inl (kI, 1019, .inl q_now)), (ra 19, .inl (kI, 12, .inl f14)), (ra 20, .inl (kI, 10, .inl f15)), (ra 21, .inl (kI, 10, .inl f16))]) (w1 := []) hP hD [] [0, 1, 2, 3, 4, 5] rfl rfl (by decide) (by decide) hk1 hFc hP1 hD1
      generalize H1 = H at hP hS ⊢
      have hP : va_P (dC, dI) vwCl [(ra 2, .inl (kI, 8, .inl q_told)), (m0, .inr (11, oX11 ra y13)), (ra 11, .inl (kI, 1019, .inl q_now)), (ra 19, .inl (kI, 12, .inl f14)), (ra 20, .inl (kI, 10, .inl f15)), (ra 21, .inl (kI, 10, .inl f16))] H := hP
      have hD : va_D A [(ra 2, .inl (kI, 8, .inl q_told)), (m0, .inr (11, oX11 ra y13)), (ra 11, .inl (kI, 1019, .inl q_now)), (ra 19, .inl (kI, 12, .inl f14)), (ra 20, .inl (kI, 10, .inl f15)), (ra 21, .inl (kI, 10, .inl f16))] := hD
      refine W.widen (k := 0) (n := 0) (Nat.le_of_ble_eq_true rfl) (Nat.le_of_ble_eq_true rfl) ?_
      refine lv_if_ne (tgt := 53) hx hb dX11_diamond_44 (by decide) (fun c31 => ?_) (fun c31 => ?_)
      · have b32 : iv 1 1 r29 := iv_neLo c31 w30.1 (iv_k (by decide) (by decide) : iv 0 0 0) (by decide) (by decide)
        have hr33 := (w30.2).resolve_left (iv_ne b32 (iv_k (by decide) (by decide) : iv 0 0 0) (by decide))
        have b34 : iv 0 3 p2 := iv_cap (in_iv hr33 (iv_k (by decide) (by decide) : iv 0 0 0) (iv_k (by decide) (by decide) : iv 3 3 3)) (iv_t p2) (by decide) (by decide)
        refine lv_iload_n hx hb dX11_diamond_53 rfl (lv_at hl 2 rfl) ?_
        refine lv_iconst (v := (-1)) hx hb dX11_diamond_54 (by decide) ?_
        refine lv_icmp_ne (tgt := 63) hx hb dX11_diamond_55 (by decide) (fun c35 => ?_) (fun c35 => ?_)
        · have b36 : iv 0 9 p1 := iv_neLo c35 b28 (iv_k (by decide) (by decide) : iv (-1) (-1) (-1)) (by decide) (by decide)
          refine lv_iload_n hx hb dX11_diamond_63 rfl (lv_at hl 3 rfl) ?_
          refine lv_if_ne (tgt := 76) hx hb dX11_diamond_64 (by decide) (fun c37 => ?_) (fun c37 => ?_)
          · have b38 : iv 1 3 p2 := iv_neLo c37 b34 (iv_k (by decide) (by decide) : iv 0 0 0) (by decide) (by decide)
            refine lv_iload_n hx hb dX11_diamond_76 rfl (lv_at hl 3 rfl) ?_
            refine lv_iconst (v := 1) hx hb dX11_diamond_77 (by decide) ?_
            refine lv_icmp_ne (tgt := 90) hx hb dX11_diamond_78 (by decide) (fun c39 => ?_) (fun c39 => ?_)
            · have b40 : iv 2 3 p2 := iv_neLo c39 b38 (iv_k (by decide) (by decide) : iv 1 1 1) (by decide) (by decide)
              refine lv_iload_n hx hb dX11_diamond_90 rfl (lv_at hl 3 rfl) ?_
              refine lv_iconst (v := 2) hx hb dX11_diamond_91 (by decide) ?_
              refine lv_icmp_ne (tgt := 103) hx hb dX11_diamond_92 (by decide) (fun c41 => ?_) (fun c41 => ?_)
              · have b42 : iv 3 3 p2 := iv_neLo c41 b40 (iv_k (by decide) (by decide) : iv 2 2 2) (by decide) (by decide)
                refine lv_aload_n hx hb dX11_diamond_103 rfl (lv_at hl 0 rfl) ?_
                refine lv_iload_n hx hb dX11_diamond_104 rfl (lv_at hl 1 rfl) ?_
                refine lv_iload_n hx hb dX11_diamond_105 rfl (lv_at hl 2 rfl) ?_
                have hPc := hP.sub (ws' := [(m0, .inr (11, oX11 ra y13)), (ra 2, .inl (kI, 8, .inl q_told)), (ra 11, .inl (kI, 1019, .inl q_now)), (ra 20, .inl (kI, 10, .inl f15)), (ra 21, .inl (kI, 10, .inl f16))]) [1, 0, 2, 4, 5] rfl
                have hDc := hD.sub (ws' := [(m0, .inr (11, oX11 ra y13)), (ra 2, .inl (kI, 8, .inl q_told)), (ra 11, .inl (kI, 1019, .inl q_now)), (ra 20, .inl (kI, 10, .inl f15)), (ra 21, .inl (kI, 10, .inl f16))]) [1, 0, 2, 4, 5] (by decide) rfl
                have hFc := va_free (wc := [(m0, .inr (11, oX11 ra y13)), (ra 2, .inl (kI, 8, .inl q_told)), (ra 11, .inl (kI, 1019, .inl q_now)), (ra 20, .inl (kI, 10, .inl f15)), (ra 21, .inl (kI, 10, .inl f16))]) hD hS hA [1, 0, 2, 4, 5] rfl
                refine va_calli (va_runV (As := [.int p0, .int p1]) (rest := []) ⟨hx, hb, hml, hown, hts⟩ (s11_skewOf l dC dI kB kI kJ kZ kC kS H.size m0 ra y13 q_told q_now f15 f16 p0 p1 (hq17) (hq_told) (hq_now) (hq18) (hq19) (b10) (b36)) (cwV 2 hts gX11_diamond_X11_skewOf rfl rfl rfl (by decide +kernel) ⟨Nat.le_of_ble_eq_true rfl, Nat.le_of_ble_eq_true rfl⟩) ⟨fun a U g mk q => by obtain ⟨q0, q1, qP, qE, qD⟩ := q; exact ⟨q0, q1, qP, kE_call qE, qD⟩, va_recv hK hP (ci := 11) (q0 := 1) rfl rfl, fun U hU hW => ⟨rfl, by rw [hU], by rw [hU]; exact hPc, kE_warm hW hE, hDc.weaken (fun _ _ _ _ => trivial)⟩⟩ rfl rfl hl.1 rfl (lv_room (Nat.le_of_ble_eq_true rfl)) dX11_diamond_106 ⟨Nat.le_of_ble_eq_true rfl, Nat.le_of_ble_eq_true rfl⟩) hS (fun q _ h => hFc q h) hFc (fun r43 u t H1 locs ht hvm w44 hB hz1 hk1 hS => ?_)
                obtain ⟨hP1, hD1⟩ := hB
                rw [ht] at hP1
                try dsimp only at w44
                obtain ⟨hP, hD⟩ := va_join (wr := [(ra 19, .inl (kI, 12, .inl f14))]) (w1 := [(m0, .inr (11, oX11 ra y13)), (ra 2, .inl (kI, 8, .inl q_told)), (ra 11, .inl (kI, 1019, .inl q_now)), (ra 20, .inl (kI, 10, .inl f15)), (ra 21, .inl (kI, 10, .inl f16))]) hP hD [1, 0, 2, 4, 5] [3] rfl rfl (by decide) (by decide) hk1 hFc hP1 hD1
                generalize H1 = H at hP hS ⊢
                have hP : va_P (dC, dI) vwCl [(ra 19, .inl (kI, 12, .inl f14)), (m0, .inr (11, oX11 ra y13)), (ra 2, .inl (kI, 8, .inl q_told)), (ra 11, .inl (kI, 1019, .inl q_now)), (ra 20, .inl (kI, 10, .inl f15)), (ra 21, .inl (kI, 10, .inl f16))] H := hP
                have hD : va_D A [(ra 19, .inl (kI, 12, .inl f14)), (m0, .inr (11, oX11 ra y13)), (ra 2, .inl (kI, 8, .inl q_told)), (ra 11, .inl (kI, 1019, .inl q_now)), (ra 20, .inl (kI, 10, .inl f15)), (ra 21, .inl (kI, 10, .inl f16))] := hD
                refine W.widen (k := 0) (n := 0) (Nat.le_of_ble_eq_true rfl) (Nat.le_of_ble_eq_true rfl) ?_
                have hP9 := hP.sub (ws' := [(m0, .inr (11, oX11 ra y13)), (ra 2, .inl (kI, 8, .inl q_told)), (ra 11, .inl (kI, 1019, .inl q_now)), (ra 19, .inl (kI, 12, .inl f14)), (ra 20, .inl (kI, 10, .inl f15)), (ra 21, .inl (kI, 10, .inl f16))]) [1, 2, 3, 0, 4, 5] rfl
                have hD9 := hD.sub (ws' := [(m0, .inr (11, oX11 ra y13)), (ra 2, .inl (kI, 8, .inl q_told)), (ra 11, .inl (kI, 1019, .inl q_now)), (ra 19, .inl (kI, 12, .inl f14)), (ra 20, .inl (kI, 10, .inl f15)), (ra 21, .inl (kI, 10, .inl f16))]) [1, 2, 3, 0, 4, 5] (by decide) rfl
                exact W.iret (v := r43) hx hb hr (fun t ht hW => ⟨⟨r43, (), rfl, w44, y13, f14, f15, f16, hq17, hq18, hq19, by rw [ht]; exact hP9, hD9⟩, hS.F ht⟩) hS.2.2 dX11_diamond_109
              · have b45 : iv 2 2 p2 := iv_eqL c41 (iv_k (by decide) (by decide) : iv 2 2 2)
                refine lv_aload_n hx hb dX11_diamond_95 rfl (lv_at hl 0 rfl) ?_
                refine lv_iload_n hx hb dX11_diamond_96 rfl (lv_at hl 2 rfl) ?_
                have hPc := hP.sub (ws' := [(m0, .inr (11, oX11 ra y13)), (ra 19, .inl (kI, 12, .inl f14)), (ra 20, .inl (kI, 10, .inl f15)), (ra 21, .inl (kI, 10, .inl f16))]) [1, 3, 4, 5] rfl
                have hDc := hD.sub (ws' := [(m0, .inr (11, oX11 ra y13)), (ra 19, .inl (kI, 12, .inl f14)), (ra 20, .inl (kI, 10, .inl f15)), (ra 21, .inl (kI, 10, .inl f16))]) [1, 3, 4, 5] (by decide) rfl
                have hFc := va_free (wc := [(m0, .inr (11, oX11 ra y13)), (ra 19, .inl (kI, 12, .inl f14)), (ra 20, .inl (kI, 10, .inl f15)), (ra 21, .inl (kI, 10, .inl f16))]) hD hS hA [1, 3, 4, 5] rfl
                refine va_calli (va_runV (As := [.int p1]) (rest := []) ⟨hx, hb, hml, hown, hts⟩ (s11_widest l dC dI kB kI kJ kZ kC kS H.size m0 ra y13 f14 f15 f16 p1 (hq17) (hq18) (hq19) (b36)) (cwV 1 hts gX11_diamond_X11_widest rfl rfl rfl (by decide +kernel) ⟨Nat.le_of_ble_eq_true rfl, Nat.le_of_ble_eq_true rfl⟩) ⟨fun a U g mk q => by obtain ⟨q0, q1, qP, qE, qD⟩ := q; exact ⟨q0, q1, qP, kE_call qE, qD⟩, va_recv hK hP (ci := 11) (q0 := 1) rfl rfl, fun U hU hW => ⟨rfl, by rw [hU], by rw [hU]; exact hPc, kE_warm hW hE, hDc.weaken (fun _ _ _ _ => trivial)⟩⟩ rfl rfl hl.1 rfl (lv_room (Nat.le_of_ble_eq_true rfl)) dX11_diamond_97 ⟨Nat.le_of_ble_eq_true rfl, Nat.le_of_ble_eq_true rfl⟩) hS (fun q _ h => hFc q h) hFc (fun r46 u t H1 locs ht hvm w47 hB hz1 hk1 hS => ?_)
                obtain ⟨hP1, hD1⟩ := hB
                rw [ht] at hP1
                try dsimp only at w47
                obtain ⟨hP, hD⟩ := va_join (wr := [(ra 2, .inl (kI, 8, .inl q_told)), (ra 11, .inl (kI, 1019, .inl q_now))]) (w1 := [(m0, .inr (11, oX11 ra y13)), (ra 19, .inl (kI, 12, .inl f14)), (ra 20, .inl (kI, 10, .inl f15)), (ra 21, .inl (kI, 10, .inl f16))]) hP hD [1, 3, 4, 5] [0, 2] rfl rfl (by decide) (by decide) hk1 hFc hP1 hD1
                generalize H1 = H at hP hS ⊢
                have hP : va_P (dC, dI) vwCl [(ra 2, .inl (kI, 8, .inl q_told)), (ra 11, .inl (kI, 1019, .inl q_now)), (m0, .inr (11, oX11 ra y13)), (ra 19, .inl (kI, 12, .inl f14)), (ra 20, .inl (kI, 10, .inl f15)), (ra 21, .inl (kI, 10, .inl f16))] H := hP
                have hD : va_D A [(ra 2, .inl (kI, 8, .inl q_told)), (ra 11, .inl (kI, 1019, .inl q_now)), (m0, .inr (11, oX11 ra y13)), (ra 19, .inl (kI, 12, .inl f14)), (ra 20, .inl (kI, 10, .inl f15)), (ra 21, .inl (kI, 10, .inl f16))] := hD
                refine W.widen (k := 0) (n := 0) (Nat.le_of_ble_eq_true rfl) (Nat.le_of_ble_eq_true rfl) ?_
                refine lv_goto (tgt := 109) hx hb dX11_diamond_100 (by decide) ?_
                have hP9 := hP.sub (ws' := [(m0, .inr (11, oX11 ra y13)), (ra 2, .inl (kI, 8, .inl q_told)), (ra 11, .inl (kI, 1019, .inl q_now)), (ra 19, .inl (kI, 12, .inl f14)), (ra 20, .inl (kI, 10, .inl f15)), (ra 21, .inl (kI, 10, .inl f16))]) [2, 0, 1, 3, 4, 5] rfl
                have hD9 := hD.sub (ws' := [(m0, .inr (11, oX11 ra y13)), (ra 2, .inl (kI, 8, .inl q_told)), (ra 11, .inl (kI, 1019, .inl q_now)), (ra 19, .inl (kI, 12, .inl f14)), (ra 20, .inl (kI, 10, .inl f15)), (ra 21, .inl (kI, 10, .inl f16))]) [2, 0, 1, 3, 4, 5] (by decide) rfl
                exact W.iret (v := r46) hx hb hr (fun t ht hW => ⟨⟨r46, (), rfl, w47, y13, f14, f15, f16, hq17, hq18, hq19, by rw [ht]; exact hP9, hD9⟩, hS.F ht⟩) hS.2.2 dX11_diamond_109
            · have b48 : iv 1 1 p2 := iv_eqL c39 (iv_k (by decide) (by decide) : iv 1 1 1)
              refine lv_aload_n hx hb dX11_diamond_81 rfl (lv_at hl 0 rfl) ?_
              refine va_get (D := (dC, dI)) (ci := 11) (v := .ref (ra 21)) (C := RX11) (T := TX11) (N := 61) hx hb hts hin11 hown hK hP 1 rfl rfl 39 (by decide) hw_2 (fun _ h9 => h9) rfl dX11_diamond_82 ?_
              refine lv_iload_n hx hb dX11_diamond_85 rfl (lv_at hl 2 rfl) ?_
              refine va_iald hx hb hK hP 5 1 rfl rfl (iv_in b36 (by decide) (by decide)) dX11_diamond_86 ?_
              refine iv_top (a := 0) (b := 10) (hq19 _) (fun z49 b50 => ?_)
              refine lv_goto (tgt := 109) hx hb dX11_diamond_87 (by decide) ?_
              have hP9 := hP.sub (ws' := [(m0, .inr (11, oX11 ra y13)), (ra 2, .inl (kI, 8, .inl q_told)), (ra 11, .inl (kI, 1019, .inl q_now)), (ra 19, .inl (kI, 12, .inl f14)), (ra 20, .inl (kI, 10, .inl f15)), (ra 21, .inl (kI, 10, .inl f16))]) [1, 0, 2, 3, 4, 5] rfl
              have hD9 := hD.sub (ws' := [(m0, .inr (11, oX11 ra y13)), (ra 2, .inl (kI, 8, .inl q_told)), (ra 11, .inl (kI, 1019, .inl q_now)), (ra 19, .inl (kI, 12, .inl f14)), (ra 20, .inl (kI, 10, .inl f15)), (ra 21, .inl (kI, 10, .inl f16))]) [1, 0, 2, 3, 4, 5] (by decide) rfl
              exact W.iret (v := z49) hx hb hr (fun t ht hW => ⟨⟨z49, (), rfl, (iv_w b50 (by decide) (by decide)), y13, f14, f15, f16, hq17, hq18, hq19, by rw [ht]; exact hP9, hD9⟩, hS.F ht⟩) hS.2.2 dX11_diamond_109
          · have b51 : iv 0 0 p2 := iv_eqL c37 (iv_k (by decide) (by decide) : iv 0 0 0)
            refine lv_aload_n hx hb dX11_diamond_67 rfl (lv_at hl 0 rfl) ?_
            refine va_get (D := (dC, dI)) (ci := 11) (v := .ref (ra 20)) (C := RX11) (T := TX11) (N := 61) hx hb hts hin11 hown hK hP 1 rfl rfl 38 (by decide) hw_3 (fun _ h9 => h9) rfl dX11_diamond_68 ?_
            refine lv_iload_n hx hb dX11_diamond_71 rfl (lv_at hl 2 rfl) ?_
            refine va_iald hx hb hK hP 4 1 rfl rfl (iv_in b36 (by decide) (by decide)) dX11_diamond_72 ?_
            refine iv_top (a := 0) (b := 10) (hq18 _) (fun z52 b53 => ?_)
            refine lv_goto (tgt := 109) hx hb dX11_diamond_73 (by decide) ?_
            have hP9 := hP.sub (ws' := [(m0, .inr (11, oX11 ra y13)), (ra 2, .inl (kI, 8, .inl q_told)), (ra 11, .inl (kI, 1019, .inl q_now)), (ra 19, .inl (kI, 12, .inl f14)), (ra 20, .inl (kI, 10, .inl f15)), (ra 21, .inl (kI, 10, .inl f16))]) [1, 0, 2, 3, 4, 5] rfl
            have hD9 := hD.sub (ws' := [(m0, .inr (11, oX11 ra y13)), (ra 2, .inl (kI, 8, .inl q_told)), (ra 11, .inl (kI, 1019, .inl q_now)), (ra 19, .inl (kI, 12, .inl f14)), (ra 20, .inl (kI, 10, .inl f15)), (ra 21, .inl (kI, 10, .inl f16))]) [1, 0, 2, 3, 4, 5] (by decide) rfl
            exact W.iret (v := z52) hx hb hr (fun t ht hW => ⟨⟨z52, (), rfl, (iv_w b53 (by decide) (by decide)), y13, f14, f15, f16, hq17, hq18, hq19, by rw [ht]; exact hP9, hD9⟩, hS.F ht⟩) hS.2.2 dX11_diamond_109
        · have b54 : iv (-1) (-1) p1 := iv_eqL c35 (iv_k (by decide) (by decide) : iv (-1) (-1) (-1))
          refine lv_aload_n hx hb dX11_diamond_58 rfl (lv_at hl 0 rfl) ?_
          refine va_get (D := (dC, dI)) (ci := 11) (v := .int (y13 18)) (C := RX11) (T := TX11) (N := 61) hx hb hts hin11 hown hK hP 1 rfl rfl 40 (by decide) hw_1 (fun _ h9 => h9) rfl dX11_diamond_59 ?_
          have hP9 := hP.sub (ws' := [(m0, .inr (11, oX11 ra y13)), (ra 2, .inl (kI, 8, .inl q_told)), (ra 11, .inl (kI, 1019, .inl q_now)), (ra 19, .inl (kI, 12, .inl f14)), (ra 20, .inl (kI, 10, .inl f15)), (ra 21, .inl (kI, 10, .inl f16))]) [1, 0, 2, 3, 4, 5] rfl
          have hD9 := hD.sub (ws' := [(m0, .inr (11, oX11 ra y13)), (ra 2, .inl (kI, 8, .inl q_told)), (ra 11, .inl (kI, 1019, .inl q_now)), (ra 19, .inl (kI, 12, .inl f14)), (ra 20, .inl (kI, 10, .inl f15)), (ra 21, .inl (kI, 10, .inl f16))]) [1, 0, 2, 3, 4, 5] (by decide) rfl
          exact W.iret (v := y13 18) hx hb hr (fun t ht hW => ⟨⟨y13 18, (), rfl, (iv_w (hq17 18 : iv 0 10 (y13 18)) (by decide) (by decide)), y13, f14, f15, f16, hq17, hq18, hq19, by rw [ht]; exact hP9, hD9⟩, hS.F ht⟩) hS.2.2 dX11_diamond_62
      · have b55 : iv 0 0 r29 := iv_eqL c31 (iv_k (by decide) (by decide) : iv 0 0 0)
        exact hJ47 y13 f14 f15 f16 _ _ _ (hq17) (hq18) (hq19) (b10) (hP.sub [1, 0, 2, 3, 4, 5] rfl) (hD.sub [1, 0, 2, 3, 4, 5] (by decide) rfl) hS (lv_sub hl [0, 1, 2, 3] rfl)
  · have b56 : iv 0 0 r6 := iv_eqL c8 (iv_k (by decide) (by decide) : iv 0 0 0)
    refine lv_aload_n hx hb dX11_diamond_13 rfl (lv_at hl 0 rfl) ?_
    refine lv_iconst (v := 1) hx hb dX11_diamond_14 (by decide) ?_
    have hPc := hP.sub (ws' := [(m0, .inr (11, oX11 ra (upd x0 0 0)))]) [4] rfl
    have hDc := hD.sub (ws' := [(m0, .inr (11, oX11 ra (upd x0 0 0)))]) [4] (by decide) rfl
    have hFc := va_free (wc := [(m0, .inr (11, oX11 ra (upd x0 0 0)))]) hD hS hA [4] rfl
    refine va_calli (va_runV (As := [.int 1]) (rest := []) ⟨hx, hb, hml, hown, hts⟩ (s11_fail l dC dI kB kI kJ kZ kC kS H.size m0 ra (upd x0 0 0) 1 ((fI_u hX (k := 0) ((iv_w (iv_k (by decide) (by decide) : iv 0 0 0) (by decide) (by decide)))))) (cwV 1 hts gX11_diamond_X11_fail rfl rfl rfl (by decide +kernel) ⟨Nat.le_of_ble_eq_true rfl, Nat.le_of_ble_eq_true rfl⟩) ⟨fun a U g mk q => by obtain ⟨q0, q1, qP, qE, qD⟩ := q; exact ⟨q0, q1, qP, kE_call qE, qD⟩, va_recv hK hP (ci := 11) (q0 := 4) rfl rfl, fun U hU hW => ⟨rfl, by rw [hU], by rw [hU]; exact hPc, kE_warm hW hE, hDc.weaken (fun _ _ _ _ => trivial)⟩⟩ rfl rfl hl.1 rfl (lv_room (Nat.le_of_ble_eq_true rfl)) dX11_diamond_15 ⟨Nat.le_of_ble_eq_true rfl, Nat.le_of_ble_eq_true rfl⟩) hS (fun q _ h => hFc q h) hFc (fun r57 u t H1 locs ht hvm w58 hB hz1 hk1 hS => ?_)
    obtain ⟨y59, hq60, hq61, hP1, hD1⟩ := hB
    rw [ht] at hP1
    try dsimp only at w58
    obtain ⟨hP, hD⟩ := va_join (wr := [(ra 11, .inl (kI, 1019, .inl q_now)), (ra 19, .inl (kI, 12, .inl q_wide)), (ra 20, .inl (kI, 10, .inl q_diamondFrom)), (ra 21, .inl (kI, 10, .inl q_diamondTo)), (ra 2, .inl (kI, 8, .inl q_told))]) (w1 := [(m0, .inr (11, oX11 ra y59))]) hP hD [4] [0, 1, 2, 3, 5] rfl rfl (by decide) (by decide) hk1 hFc hP1 hD1
    generalize H1 = H at hP hS ⊢
    have hP : va_P (dC, dI) vwCl [(ra 11, .inl (kI, 1019, .inl q_now)), (ra 19, .inl (kI, 12, .inl q_wide)), (ra 20, .inl (kI, 10, .inl q_diamondFrom)), (ra 21, .inl (kI, 10, .inl q_diamondTo)), (ra 2, .inl (kI, 8, .inl q_told)), (m0, .inr (11, oX11 ra y59))] H := hP
    have hD : va_D A [(ra 11, .inl (kI, 1019, .inl q_now)), (ra 19, .inl (kI, 12, .inl q_wide)), (ra 20, .inl (kI, 10, .inl q_diamondFrom)), (ra 21, .inl (kI, 10, .inl q_diamondTo)), (ra 2, .inl (kI, 8, .inl q_told)), (m0, .inr (11, oX11 ra y59))] := hD
    refine W.widen (k := 0) (n := 0) (Nat.le_of_ble_eq_true rfl) (Nat.le_of_ble_eq_true rfl) ?_
    obtain rfl : r57 = 0 := iv_one w58 (by decide)
    have hP9 := hP.sub (ws' := [(m0, .inr (11, oX11 ra y59)), (ra 2, .inl (kI, 8, .inl q_told)), (ra 11, .inl (kI, 1019, .inl q_now)), (ra 19, .inl (kI, 12, .inl q_wide)), (ra 20, .inl (kI, 10, .inl q_diamondFrom)), (ra 21, .inl (kI, 10, .inl q_diamondTo))]) [5, 4, 0, 1, 2, 3] rfl
    have hD9 := hD.sub (ws' := [(m0, .inr (11, oX11 ra y59)), (ra 2, .inl (kI, 8, .inl q_told)), (ra 11, .inl (kI, 1019, .inl q_now)), (ra 19, .inl (kI, 12, .inl q_wide)), (ra 20, .inl (kI, 10, .inl q_diamondFrom)), (ra 21, .inl (kI, 10, .inl q_diamondTo))]) [5, 4, 0, 1, 2, 3] (by decide) rfl
    exact W.iret (v := 0) hx hb hr (fun t ht hW => ⟨⟨0, (), rfl, (iv_w (iv_k (by decide) (by decide) : iv 0 0 0) (by decide) (by decide)), y59, q_wide, q_diamondFrom, q_diamondTo, hq60, hq_diamondFrom, hq_diamondTo, by rw [ht]; exact hP9, hD9⟩, hS.F ht⟩) hS.2.2 dX11_diamond_18
def rm_s11_loop : Room := { frames := 3, cells := 0, slots := 0, locals := 69 }
set_option maxHeartbeats 4000000 in
set_option maxRecDepth 100000 in
theorem s11_loop (l : Launch) (dC : Nat → ClassId) (dI : Nat → Nat → Nat) (kB kI kJ kZ kC kS : ClassId) (sz : Nat) (m0 : Nat) (ra : Nat → Nat) (x0 : Nat → Int32) (q_told : Nat → Int32) (q_kind : Nat → Int32) (q_late : Nat → Int32) (q_from : Nat → Int32) (q_to : Nat → Int32) (q_goal : Nat → Int32) (q_now : Nat → Int32) (q_reach : Nat → Int32) (p0 : Int32) (p1 : Int32) (p2 : Int32) (hX : fI lX11 hX11 x0) (hq_told : fI lTold hTold q_told) (hq_from : fI (fun _ => 0) (fun _ => 11) q_from) (hq_to : fI (fun _ => 0) (fun _ => 11) q_to) (hq_goal : fI (fun _ => 0) (fun _ => 11) q_goal) (hq_now : fI lNow hNow q_now) : Met l yX11_loop wsX11_loop rm_s11_loop (va_Pc [.ref m0, .int p0, .int p1, .int p2] (fun U => U.heap.size = sz ∧ va_P (dC, dI) vwCl [(m0, .inr (11, oX11 ra x0)), (ra 2, .inl (kI, 8, .inl q_told)), (ra 3, .inl (kI, 24, .inl q_kind)), (ra 7, .inl (kI, 24, .inl q_late)), (ra 8, .inl (kI, 40, .inl q_from)), (ra 9, .inl (kI, 40, .inl q_to)), (ra 10, .inl (kI, 6, .inl q_goal)), (ra 11, .inl (kI, 1019, .inl q_now)), (ra 14, .inl (kI, 12, .inl q_reach))] U.heap ∧ kE dC dI kB kI kJ kZ kC kS U ∧ va_D (fun _ => True) [(m0, .inr (11, oX11 ra x0)), (ra 2, .inl (kI, 8, .inl q_told)), (ra 3, .inl (kI, 24, .inl q_kind)), (ra 7, .inl (kI, 24, .inl q_late)), (ra 8, .inl (kI, 40, .inl q_from)), (ra 9, .inl (kI, 40, .inl q_to)), (ra 10, .inl (kI, 6, .inl q_goal)), (ra 11, .inl (kI, 1019, .inl q_now)), (ra 14, .inl (kI, 12, .inl q_reach))])) (va_Qi (fun (r : Int32) (_ : Unit) => iv (-1) 9 r) (fun _ t => ∃ (x0' : Nat → Int32), fI lX11 hX11 x0' ∧ va_P (dC, dI) vwCl [(m0, .inr (11, oX11 ra x0')), (ra 2, .inl (kI, 8, .inl q_told)), (ra 3, .inl (kI, 24, .inl q_kind)), (ra 7, .inl (kI, 24, .inl q_late)), (ra 8, .inl (kI, 40, .inl q_from)), (ra 9, .inl (kI, 40, .inl q_to)), (ra 10, .inl (kI, 6, .inl q_goal)), (ra 11, .inl (kI, 1019, .inl q_now)), (ra 14, .inl (kI, 12, .inl q_reach))] t.heap ∧ va_D (va_A [(m0, .inr (11, oX11 ra x0)), (ra 2, .inl (kI, 8, .inl q_told)), (ra 3, .inl (kI, 24, .inl q_kind)), (ra 7, .inl (kI, 24, .inl q_late)), (ra 8, .inl (kI, 40, .inl q_from)), (ra 9, .inl (kI, 40, .inl q_to)), (ra 10, .inl (kI, 6, .inl q_goal)), (ra 11, .inl (kI, 1019, .inl q_now)), (ra 14, .inl (kI, 12, .inl q_reach))] sz) [(m0, .inr (11, oX11 ra x0')), (ra 2, .inl (kI, 8, .inl q_told)), (ra 3, .inl (kI, 24, .inl q_kind)), (ra 7, .inl (kI, 24, .inl q_late)), (ra 8, .inl (kI, 40, .inl q_from)), (ra 9, .inl (kI, 40, .inl q_to)), (ra 10, .inl (kI, 6, .inl q_goal)), (ra 11, .inl (kI, 1019, .inl q_now)), (ra 14, .inl (kI, 12, .inl q_reach))]) (va_A [(m0, .inr (11, oX11 ra x0)), (ra 2, .inl (kI, 8, .inl q_told)), (ra 3, .inl (kI, 24, .inl q_kind)), (ra 7, .inl (kI, 24, .inl q_late)), (ra 8, .inl (kI, 40, .inl q_from)), (ra 9, .inl (kI, 40, .inl q_to)), (ra 10, .inl (kI, 6, .inl q_goal)), (ra 11, .inl (kI, 1019, .inl q_now)), (ra 14, .inl (kI, 12, .inl q_reach))] sz)) 0 0 (va_A [(m0, .inr (11, oX11 ra x0)), (ra 2, .inl (kI, 8, .inl q_told)), (ra 3, .inl (kI, 24, .inl q_kind)), (ra 7, .inl (kI, 24, .inl q_late)), (ra 8, .inl (kI, 40, .inl q_from)), (ra 9, .inl (kI, 40, .inl q_to)), (ra 10, .inl (kI, 6, .inl q_goal)), (ra 11, .inl (kI, 1019, .inl q_now)), (ra 14, .inl (kI, 12, .inl q_reach))] sz) := by
  refine Met.ofW (cc := cX11_loop) (maxL := 5) (ret := (some .int)) (by decide) rfl ?_
  intro p e s m args0 below meth c s₁ B hml hv
  obtain ⟨hargs, hsz, hP, hE, hD0⟩ := hv
  have hx := B.exec
  have hb := B.bytes
  have hr := B.returns
  have hts := atoms_spec (ws := wsX11_loop) B.pre
  have hown : s.vm.findClass RX11 = some m.cls := findClass_of_methodNamed B.named
  have hlocks := B.notSynchronized
  have hK := hE.1
  have hin11 : ∀ w ∈ wsX110, w ∈ wsX11_loop := fun _ h9 => List.mem_cons_of_mem _ (List.mem_append_right _ h9)
  have hw_0 := hts (.fieldLink RX11 142 "PathProberModel" "code" "I") (List.mem_of_getElem? (i := 1) (by decide +kernel))
  subst hsz
  have hD := hD0.self (sz := s.heap.size)
  generalize hAe : va_A [(m0, .inr (11, oX11 ra x0)), (ra 2, .inl (kI, 8, .inl q_told)), (ra 3, .inl (kI, 24, .inl q_kind)), (ra 7, .inl (kI, 24, .inl q_late)), (ra 8, .inl (kI, 40, .inl q_from)), (ra 9, .inl (kI, 40, .inl q_to)), (ra 10, .inl (kI, 6, .inl q_goal)), (ra 11, .inl (kI, 1019, .inl q_now)), (ra 14, .inl (kI, 12, .inl q_reach))] s.heap.size = A at hD ⊢
  have hA : ∀ q : Nat, s.heap.size ≤ q → A q := fun q h => by rw [← hAe]; exact Or.inr h
  have hS : va_S A s.heap s.heap [] := va_S.rf
  have hP : va_P (dC, dI) vwCl [(m0, .inr (11, oX11 ra x0)), (ra 2, .inl (kI, 8, .inl q_told)), (ra 3, .inl (kI, 24, .inl q_kind)), (ra 7, .inl (kI, 24, .inl q_late)), (ra 8, .inl (kI, 40, .inl q_from)), (ra 9, .inl (kI, 40, .inl q_to)), (ra 10, .inl (kI, 6, .inl q_goal)), (ra 11, .inl (kI, 1019, .inl q_now)), (ra 14, .inl (kI, 12, .inl q_reach))] s.heap := hP
  have hl := lv_entry ([.ref m0, .int p0, .int p1, .int p2]) (n := 5) (Nat.le_of_ble_eq_true rfl)
  have hla : entryFrame m args0 5 = entryFrame m ([.ref m0, .int p0, .int p1, .int p2] : List Value).toArray 5 := by rw [hargs]
  rw [hla, lg_entry_eq]
  generalize (lg_sl ([.ref m0, .int p0, .int p1, .int p2]) ++ List.replicate (5 - (lg_sl ([.ref m0, .int p0, .int p1, .int p2])).length) Slot.unset).toArray = ls at hl ⊢
  have hl : lv_has ls 5 [(0, .ref m0), (1, .int p0), (2, .int p1), (3, .int p2)] := hl
  have hJ29 : ∀ (y29_0 : Nat → Int32) (H : Heap) (locs : List Loc) (ls : Array Slot), fI lX11 hX11 y29_0 → iv 0 0 (y29_0 0) → va_P (dC, dI) vwCl [(m0, .inr (11, oX11 ra y29_0)), (ra 2, .inl (kI, 8, .inl q_told)), (ra 3, .inl (kI, 24, .inl q_kind)), (ra 7, .inl (kI, 24, .inl q_late)), (ra 8, .inl (kI, 40, .inl q_from)), (ra 9, .inl (kI, 40, .inl q_to)), (ra 10, .inl (kI, 6, .inl q_goal)), (ra 11, .inl (kI, 1019, .inl q_now)), (ra 14, .inl (kI, 12, .inl q_reach))] H → va_D A [(m0, .inr (11, oX11 ra y29_0)), (ra 2, .inl (kI, 8, .inl q_told)), (ra 3, .inl (kI, 24, .inl q_kind)), (ra 7, .inl (kI, 24, .inl q_late)), (ra 8, .inl (kI, 40, .inl q_from)), (ra 9, .inl (kI, 40, .inl q_to)), (ra 10, .inl (kI, 6, .inl q_goal)), (ra 11, .inl (kI, 1019, .inl q_now)), (ra 14, .inl (kI, 12, .inl q_reach))] → va_S A s.heap H locs → lv_has ls 5 [(0, .ref m0), (1, .int p0), (2, .int p1), (3, .int p2)] → W p l e (headSpec wsX11_loop rm_s11_loop).room s m args0 below meth c H locs (0) (0) (MQ below (va_Qi (fun (r : Int32) (_ : Unit) => iv (-1) 9 r) (fun _ t => ∃ (x0' : Nat → Int32), fI lX11 hX11 x0' ∧ va_P (dC, dI) vwCl [(m0, .inr (11, oX11 ra x0')), (ra 2, .inl (kI, 8, .inl q_told)), (ra 3, .inl (kI, 24, .inl q_kind)), (ra 7, .inl (kI, 24, .inl q_late)), (ra 8, .inl (kI, 40, .inl q_from)), (ra 9, .inl (kI, 40, .inl q_to)), (ra 10, .inl (kI, 6, .inl q_goal)), (ra 11, .inl (kI, 1019, .inl q_now)), (ra 14, .inl (kI, 12, .inl q_reach))] t.heap ∧ va_D A [(m0, .inr (11, oX11 ra x0')), (ra 2, .inl (kI, 8, .inl q_told)), (ra 3, .inl (kI, 24, .inl q_kind)), (ra 7, .inl (kI, 24, .inl q_late)), (ra 8, .inl (kI, 40, .inl q_from)), (ra 9, .inl (kI, 40, .inl q_to)), (ra 10, .inl (kI, 6, .inl q_goal)), (ra 11, .inl (kI, 1019, .inl q_now)), (ra 14, .inl (kI, 12, .inl q_reach))]) A) args0 s 0 0 A) (F0 m 29 ls []) := by
    intro y29_0 H locs ls hI29_0 h29_2 hP hD hS hl
    refine lv_aload_n hx hb dX11_loop_29 rfl (lv_at hl 0 rfl) ?_
    refine lv_iconst (v := 1) hx hb dX11_loop_30 (by decide) ?_
    have hPc := hP.sub (ws' := [(m0, .inr (11, oX11 ra y29_0))]) [0] rfl
    have hDc := hD.sub (ws' := [(m0, .inr (11, oX11 ra y29_0))]) [0] (by decide +kernel) rfl
    have hFc := va_free (wc := [(m0, .inr (11, oX11 ra y29_0))]) hD hS hA [0] rfl
    refine va_calli (va_runV (As := [.int 1]) (rest := []) ⟨hx, hb, hml, hown, hts⟩ (s11_fail l dC dI kB kI kJ kZ kC kS H.size m0 ra y29_0 1 (hI29_0)) (cwV 1 hts gX11_loop_X11_fail rfl rfl rfl (by decide +kernel) ⟨Nat.le_of_ble_eq_true rfl, Nat.le_of_ble_eq_true rfl⟩) ⟨fun a U g mk q => by obtain ⟨q0, q1, qP, qE, qD⟩ := q; exact ⟨q0, q1, qP, kE_call qE, qD⟩, va_recv hK hP (ci := 11) (q0 := 0) rfl rfl, fun U hU hW => ⟨rfl, by rw [hU], by rw [hU]; exact hPc, kE_warm hW hE, hDc.weaken (fun _ _ _ _ => trivial)⟩⟩ rfl rfl hl.1 rfl (lv_room (Nat.le_of_ble_eq_true rfl)) dX11_loop_31 ⟨Nat.le_of_ble_eq_true rfl, Nat.le_of_ble_eq_true rfl⟩) hS (fun q _ h => hFc q h) hFc (fun r1 u t H1 locs ht hvm w2 hB hz1 hk1 hS => ?_)
    obtain ⟨y3, hq4, hq5, hP1, hD1⟩ := hB
    rw [ht] at hP1
    try dsimp only at w2
    obtain ⟨hP, hD⟩ := va_join (wr := [(ra 2, .inl (kI, 8, .inl q_told)), (ra 3, .inl (kI, 24, .inl q_kind)), (ra 7, .inl (kI, 24, .inl q_late)), (ra 8, .inl (kI, 40, .inl q_from)), (ra 9, .inl (kI, 40, .inl q_to)), (ra 10, .inl (kI, 6, .inl q_goal)), (ra 11, .inl (kI, 1019, .inl q_now)), (ra 14, .inl (kI, 12, .inl q_reach))]) (w1 := [(m0, .inr (11, oX11 ra y3))]) hP hD [0] [1, 2, 3, 4, 5, 6, 7, 8] rfl rfl (by decide +kernel) (by decide +kernel) hk1 hFc hP1 hD1
    generalize H1 = H at hP hS ⊢
    have hP : va_P (dC, dI) vwCl [(ra 2, .inl (kI, 8, .inl q_told)), (ra 3, .inl (kI, 24, .inl q_kind)), (ra 7, .inl (kI, 24, .inl q_late)), (ra 8, .inl (kI, 40, .inl q_from)), (ra 9, .inl (kI, 40, .inl q_to)), (ra 10, .inl (kI, 6, .inl q_goal)), (ra 11, .inl (kI, 1019, .inl q_now)), (ra 14, .inl (kI, 12, .inl q_reach)), (m0, .inr (11, oX11 ra y3))] H := hP
    have hD : va_D A [(ra 2, .inl (kI, 8, .inl q_told)), (ra 3, .inl (kI, 24, .inl q_kind)), (ra 7, .inl (kI, 24, .inl q_late)), (ra 8, .inl (kI, 40, .inl q_from)), (ra 9, .inl (kI, 40, .inl q_to)), (ra 10, .inl (kI, 6, .inl q_goal)), (ra 11, .inl (kI, 1019, .inl q_now)), (ra 14, .inl (kI, 12, .inl q_reach)), (m0, .inr (11, oX11 ra y3))] := hD
    refine W.widen (k := 0) (n := 0) (Nat.le_of_ble_eq_true rfl) (Nat.le_of_ble_eq_true rfl) ?_
    obtain rfl : r1 = 0 := iv_one w2 (by decide)
    have hP9 := hP.sub (ws' := [(m0, .inr (11, oX11 ra y3)), (ra 2, .inl (kI, 8, .inl q_told)), (ra 3, .inl (kI, 24, .inl q_kind)), (ra 7, .inl (kI, 24, .inl q_late)), (ra 8, .inl (kI, 40, .inl q_from)), (ra 9, .inl (kI, 40, .inl q_to)), (ra 10, .inl (kI, 6, .inl q_goal)), (ra 11, .inl (kI, 1019, .inl q_now)), (ra 14, .inl (kI, 12, .inl q_reach))]) [8, 0, 1, 2, 3, 4, 5, 6, 7] rfl
    have hD9 := hD.sub (ws' := [(m0, .inr (11, oX11 ra y3)), (ra 2, .inl (kI, 8, .inl q_told)), (ra 3, .inl (kI, 24, .inl q_kind)), (ra 7, .inl (kI, 24, .inl q_late)), (ra 8, .inl (kI, 40, .inl q_from)), (ra 9, .inl (kI, 40, .inl q_to)), (ra 10, .inl (kI, 6, .inl q_goal)), (ra 11, .inl (kI, 1019, .inl q_now)), (ra 14, .inl (kI, 12, .inl q_reach))]) [8, 0, 1, 2, 3, 4, 5, 6, 7] (by decide +kernel) rfl
    exact W.iret (v := 0) hx hb hr (fun t ht hW => ⟨⟨0, (), rfl, (iv_w (iv_k (by decide) (by decide) : iv 0 0 0) (by decide) (by decide)), y3, hq4, by rw [ht]; exact hP9, hD9⟩, hS.F ht⟩) hS.2.2 dX11_loop_34
  refine lv_aload_n hx hb dX11_loop_0 rfl (lv_at hl 0 rfl) ?_
  refine lv_iconst (v := 0) hx hb dX11_loop_1 (by decide) ?_
  refine va_put (D := (dC, dI)) (ci := 11) (v := .int 0) (ty := .int) (C := RX11) (T := TX11) (N := 61) hx hb hts hin11 tyX11 tyX11_ok nmX11 hown hK hP hD hS 0 rfl rfl 2 (by decide) hw_0 (fun _ h9 => h9) rfl (by decide +kernel) rfl rfl (Nat.le_of_ble_eq_true rfl) dX11_loop_2 (fun H locs hP hD hS => ?_)
  have hP : va_P (dC, dI) vwCl [(m0, .inr (11, oX11 ra (upd x0 0 0))), (ra 2, .inl (kI, 8, .inl q_told)), (ra 3, .inl (kI, 24, .inl q_kind)), (ra 7, .inl (kI, 24, .inl q_late)), (ra 8, .inl (kI, 40, .inl q_from)), (ra 9, .inl (kI, 40, .inl q_to)), (ra 10, .inl (kI, 6, .inl q_goal)), (ra 11, .inl (kI, 1019, .inl q_now)), (ra 14, .inl (kI, 12, .inl q_reach))] H := hP
  have hD : va_D A [(m0, .inr (11, oX11 ra (upd x0 0 0))), (ra 2, .inl (kI, 8, .inl q_told)), (ra 3, .inl (kI, 24, .inl q_kind)), (ra 7, .inl (kI, 24, .inl q_late)), (ra 8, .inl (kI, 40, .inl q_from)), (ra 9, .inl (kI, 40, .inl q_to)), (ra 10, .inl (kI, 6, .inl q_goal)), (ra 11, .inl (kI, 1019, .inl q_now)), (ra 14, .inl (kI, 12, .inl q_reach))] := hD
  refine lv_iload_n hx hb dX11_loop_5 rfl (lv_at hl 1 rfl) ?_
  have hPc := hP.sub (ws' := []) [] rfl
  have hDc := hD.sub (ws' := []) [] (by decide +kernel) rfl
  have hFc := va_free (wc := []) hD hS hA [] rfl
  refine va_calli (va_runS (As := [.int p0]) (rest := []) ⟨hx, hb, hml, hown, hts⟩ (s11_isPort l dC dI kB kI kJ kZ kC kS H.size p0) (va_cwS 1 hts gX11_loop_X11_isPort rfl rfl rfl (by decide +kernel) ⟨Nat.le_of_ble_eq_true rfl, Nat.le_of_ble_eq_true rfl⟩) ⟨fun a U g mk q => by obtain ⟨q0, q1, qP, qE, qD⟩ := q; exact ⟨q0, q1, qP, kE_call qE, qD⟩, fun U hU hW => ⟨rfl, by rw [hU], by rw [hU]; exact hPc, kE_warm hW hE, hDc.weaken (fun _ _ _ _ => trivial)⟩⟩ rfl rfl hl.1 rfl (lv_room (Nat.le_of_ble_eq_true rfl)) dX11_loop_6 ⟨Nat.le_of_ble_eq_true rfl, Nat.le_of_ble_eq_true rfl⟩) hS (fun q _ h => hFc q h) hFc (fun r6 u t H1 locs ht hvm w7 hB hz1 hk1 hS => ?_)
  obtain ⟨hP1, hD1⟩ := hB
  rw [ht] at hP1
  try dsimp only at w7
  obtain ⟨hP, hD⟩ := va_join (wr := [(m0, .inr (11, oX11 ra (upd x0 0 0))), (ra 2, .inl (kI, 8, .inl q_told)), (ra 3, .inl (kI, 24, .inl q_kind)), (ra 7, .inl (kI, 24, .inl q_late)), (ra 8, .inl (kI, 40, .inl q_from)), (ra 9, .inl (kI, 40, .inl q_to)), (ra 10, .inl (kI, 6, .inl q_goal)), (ra 11, .inl (kI, 1019, .inl q_now)), (ra 14, .inl (kI, 12, .inl q_reach))]) (w1 := []) hP hD [] [0, 1, 2, 3, 4, 5, 6, 7, 8] rfl rfl (by decide +kernel) (by decide +kernel) hk1 hFc hP1 hD1
  generalize H1 = H at hP hS ⊢
  have hP : va_P (dC, dI) vwCl [(m0, .inr (11, oX11 ra (upd x0 0 0))), (ra 2, .inl (kI, 8, .inl q_told)), (ra 3, .inl (kI, 24, .inl q_kind)), (ra 7, .inl (kI, 24, .inl q_late)), (ra 8, .inl (kI, 40, .inl q_from)), (ra 9, .inl (kI, 40, .inl q_to)), (ra 10, .inl (kI, 6, .inl q_goal)), (ra 11, .inl (kI, 1019, .inl q_now)), (ra 14, .inl (kI, 12, .inl q_reach))] H := hP
  have hD : va_D A [(m0, .inr (11, oX11 ra (upd x0 0 0))), (ra 2, .inl (kI, 8, .inl q_told)), (ra 3, .inl (kI, 24, .inl q_kind)), (ra 7, .inl (kI, 24, .inl q_late)), (ra 8, .inl (kI, 40, .inl q_from)), (ra 9, .inl (kI, 40, .inl q_to)), (ra 10, .inl (kI, 6, .inl q_goal)), (ra 11, .inl (kI, 1019, .inl q_now)), (ra 14, .inl (kI, 12, .inl q_reach))] := hD
  refine W.widen (k := 0) (n := 0) (Nat.le_of_ble_eq_true rfl) (Nat.le_of_ble_eq_true rfl) ?_
  refine lv_if_eq (tgt := 29) hx hb dX11_loop_9 (by decide) (fun c8 => ?_) (fun c8 => ?_)
  · have b9 : iv 0 0 r6 := iv_eqL c8 (iv_k (by decide) (by decide) : iv 0 0 0)
    exact hJ29 (upd x0 0 0) _ _ _ ((fI_u hX (k := 0) ((iv_w (iv_k (by decide) (by decide) : iv 0 0 0) (by decide) (by decide))))) ((iv_k (by decide) (by decide) : iv 0 0 0)) (hP.sub [0, 1, 2, 3, 4, 5, 6, 7, 8] rfl) (hD.sub [0, 1, 2, 3, 4, 5, 6, 7, 8] (by decide +kernel) rfl) hS (lv_sub hl [0, 1, 2, 3] rfl)
  · have b10 : iv 1 1 r6 := iv_neLo c8 w7.1 (iv_k (by decide) (by decide) : iv 0 0 0) (by decide) (by decide)
    have b11 : iv 0 31 p0 := (w7.2).resolve_left (iv_ne b10 (iv_k (by decide) (by decide) : iv 0 0 0) (by decide))
    refine lv_aload_n hx hb dX11_loop_12 rfl (lv_at hl 0 rfl) ?_
    refine lv_iload_n hx hb dX11_loop_13 rfl (lv_at hl 2 rfl) ?_
    have hPc := hP.sub (ws' := [(m0, .inr (11, oX11 ra (upd x0 0 0))), (ra 2, .inl (kI, 8, .inl q_told))]) [0, 1] rfl
    have hDc := hD.sub (ws' := [(m0, .inr (11, oX11 ra (upd x0 0 0))), (ra 2, .inl (kI, 8, .inl q_told))]) [0, 1] (by decide +kernel) rfl
    have hFc := va_free (wc := [(m0, .inr (11, oX11 ra (upd x0 0 0))), (ra 2, .inl (kI, 8, .inl q_told))]) hD hS hA [0, 1] rfl
    refine va_calli (va_runV (As := [.int p1]) (rest := []) ⟨hx, hb, hml, hown, hts⟩ (s11_isGoal l dC dI kB kI kJ kZ kC kS H.size m0 ra (upd x0 0 0) q_told p1 ((fI_u hX (k := 0) ((iv_w (iv_k (by decide) (by decide) : iv 0 0 0) (by decide) (by decide))))) (hq_told)) (cwV 1 hts gX11_loop_X11_isGoal rfl rfl rfl (by decide +kernel) ⟨Nat.le_of_ble_eq_true rfl, Nat.le_of_ble_eq_true rfl⟩) ⟨fun a U g mk q => by obtain ⟨q0, q1, qP, qE, qD⟩ := q; exact ⟨q0, q1, qP, kE_call qE, qD⟩, va_recv hK hP (ci := 11) (q0 := 0) rfl rfl, fun U hU hW => ⟨rfl, by rw [hU], by rw [hU]; exact hPc, kE_warm hW hE, hDc.weaken (fun _ _ _ _ => trivial)⟩⟩ rfl rfl hl.1 rfl (lv_room (Nat.le_of_ble_eq_true rfl)) dX11_loop_14 ⟨Nat.le_of_ble_eq_true rfl, Nat.le_of_ble_eq_true rfl⟩) hS (fun q _ h => hFc q h) hFc (fun r12 u t H1 locs ht hvm w13 hB hz1 hk1 hS => ?_)
    obtain ⟨hP1, hD1⟩ := hB
    rw [ht] at hP1
    try dsimp only at w13
    obtain ⟨hP, hD⟩ := va_join (wr := [(ra 3, .inl (kI, 24, .inl q_kind)), (ra 7, .inl (kI, 24, .inl q_late)), (ra 8, .inl (kI, 40, .inl q_from)), (ra 9, .inl (kI, 40, .inl q_to)), (ra 10, .inl (kI, 6, .inl q_goal)), (ra 11, .inl (kI, 1019, .inl q_now)), (ra 14, .inl (kI, 12, .inl q_reach))]) (w1 := [(m0, .inr (11, oX11 ra (upd x0 0 0))), (ra 2, .inl (kI, 8, .inl q_told))]) hP hD [0, 1] [2, 3, 4, 5, 6, 7, 8] rfl rfl (by decide +kernel) (by decide +kernel) hk1 hFc hP1 hD1
    generalize H1 = H at hP hS ⊢
    have hP : va_P (dC, dI) vwCl [(ra 3, .inl (kI, 24, .inl q_kind)), (ra 7, .inl (kI, 24, .inl q_late)), (ra 8, .inl (kI, 40, .inl q_from)), (ra 9, .inl (kI, 40, .inl q_to)), (ra 10, .inl (kI, 6, .inl q_goal)), (ra 11, .inl (kI, 1019, .inl q_now)), (ra 14, .inl (kI, 12, .inl q_reach)), (m0, .inr (11, oX11 ra (upd x0 0 0))), (ra 2, .inl (kI, 8, .inl q_told))] H := hP
    have hD : va_D A [(ra 3, .inl (kI, 24, .inl q_kind)), (ra 7, .inl (kI, 24, .inl q_late)), (ra 8, .inl (kI, 40, .inl q_from)), (ra 9, .inl (kI, 40, .inl q_to)), (ra 10, .inl (kI, 6, .inl q_goal)), (ra 11, .inl (kI, 1019, .inl q_now)), (ra 14, .inl (kI, 12, .inl q_reach)), (m0, .inr (11, oX11 ra (upd x0 0 0))), (ra 2, .inl (kI, 8, .inl q_told))] := hD
    refine W.widen (k := 0) (n := 0) (Nat.le_of_ble_eq_true rfl) (Nat.le_of_ble_eq_true rfl) ?_
    refine lv_if_eq (tgt := 29) hx hb dX11_loop_17 (by decide) (fun c14 => ?_) (fun c14 => ?_)
    · have b15 : iv 0 0 r12 := iv_eqL c14 (iv_k (by decide) (by decide) : iv 0 0 0)
      exact hJ29 (upd x0 0 0) _ _ _ ((fI_u hX (k := 0) ((iv_w (iv_k (by decide) (by decide) : iv 0 0 0) (by decide) (by decide))))) ((iv_k (by decide) (by decide) : iv 0 0 0)) (hP.sub [7, 8, 0, 1, 2, 3, 4, 5, 6] rfl) (hD.sub [7, 8, 0, 1, 2, 3, 4, 5, 6] (by decide +kernel) rfl) hS (lv_sub hl [0, 1, 2, 3] rfl)
    · have b16 : iv 1 1 r12 := iv_neLo c14 w13.1 (iv_k (by decide) (by decide) : iv 0 0 0) (by decide) (by decide)
      have b17 : iv 0 2 p1 := (w13.2).resolve_left (iv_ne b16 (iv_k (by decide) (by decide) : iv 0 0 0) (by decide))
      refine lv_iload_n hx hb dX11_loop_20 rfl (lv_at hl 3 rfl) ?_
      refine lv_iconst (v := 0) hx hb dX11_loop_21 (by decide) ?_
      refine lv_iconst (v := 1) hx hb dX11_loop_22 (by decide) ?_
      have hPc := hP.sub (ws' := []) [] rfl
      have hDc := hD.sub (ws' := []) [] (by decide +kernel) rfl
      have hFc := va_free (wc := []) hD hS hA [] rfl
      refine va_calli (va_runS (As := [.int p2, .int 0, .int 1]) (rest := []) ⟨hx, hb, hml, hown, hts⟩ (s11_isIn l dC dI kB kI kJ kZ kC kS H.size p2 0 1) (va_cwS 3 hts gX11_loop_X11_isIn rfl rfl rfl (by decide +kernel) ⟨Nat.le_of_ble_eq_true rfl, Nat.le_of_ble_eq_true rfl⟩) ⟨fun a U g mk q => by obtain ⟨q0, q1, qP, qE, qD⟩ := q; exact ⟨q0, q1, qP, kE_call qE, qD⟩, fun U hU hW => ⟨rfl, by rw [hU], by rw [hU]; exact hPc, kE_warm hW hE, hDc.weaken (fun _ _ _ _ => trivial)⟩⟩ rfl rfl hl.1 rfl (lv_room (Nat.le_of_ble_eq_true rfl)) dX11_loop_23 ⟨Nat.le_of_ble_eq_true rfl, Nat.le_of_ble_eq_true rfl⟩) hS (fun q _ h => hFc q h) hFc (fun r18 u t H1 locs ht hvm w19 hB hz1 hk1 hS => ?_)
      obtain ⟨hP1, hD1⟩ := hB
      rw [ht] at hP1
      try dsimp only at w19
      obtain ⟨hP, hD⟩ := va_join (wr := [(ra 3, .inl (kI, 24, .inl q_kind)), (ra 7, .inl (kI, 24, .inl q_late)), (ra 8, .inl (kI, 40, .inl q_from)), (ra 9, .inl (kI, 40, .inl q_to)), (ra 10, .inl (kI, 6, .inl q_goal)), (ra 11, .inl (kI, 1019, .inl q_now)), (ra 14, .inl (kI, 12, .inl q_reach)), (m0, .inr (11, oX11 ra (upd x0 0 0))), (ra 2, .inl (kI, 8, .inl q_told))]) (w1 := []) hP hD [] [0, 1, 2, 3, 4, 5, 6, 7, 8] rfl rfl (by decide +kernel) (by decide +kernel) hk1 hFc hP1 hD1
      generalize H1 = H at hP hS ⊢
      have hP : va_P (dC, dI) vwCl [(ra 3, .inl (kI, 24, .inl q_kind)), (ra 7, .inl (kI, 24, .inl q_late)), (ra 8, .inl (kI, 40, .inl q_from)), (ra 9, .inl (kI, 40, .inl q_to)), (ra 10, .inl (kI, 6, .inl q_goal)), (ra 11, .inl (kI, 1019, .inl q_now)), (ra 14, .inl (kI, 12, .inl q_reach)), (m0, .inr (11, oX11 ra (upd x0 0 0))), (ra 2, .inl (kI, 8, .inl q_told))] H := hP
      have hD : va_D A [(ra 3, .inl (kI, 24, .inl q_kind)), (ra 7, .inl (kI, 24, .inl q_late)), (ra 8, .inl (kI, 40, .inl q_from)), (ra 9, .inl (kI, 40, .inl q_to)), (ra 10, .inl (kI, 6, .inl q_goal)), (ra 11, .inl (kI, 1019, .inl q_now)), (ra 14, .inl (kI, 12, .inl q_reach)), (m0, .inr (11, oX11 ra (upd x0 0 0))), (ra 2, .inl (kI, 8, .inl q_told))] := hD
      refine W.widen (k := 0) (n := 0) (Nat.le_of_ble_eq_true rfl) (Nat.le_of_ble_eq_true rfl) ?_
      refine lv_if_ne (tgt := 35) hx hb dX11_loop_26 (by decide) (fun c20 => ?_) (fun c20 => ?_)
      · have b21 : iv 1 1 r18 := iv_neLo c20 w19.1 (iv_k (by decide) (by decide) : iv 0 0 0) (by decide) (by decide)
        have hr22 := (w19.2).resolve_left (iv_ne b21 (iv_k (by decide) (by decide) : iv 0 0 0) (by decide))
        have b23 : iv 0 1 p2 := iv_cap (in_iv hr22 (iv_k (by decide) (by decide) : iv 0 0 0) (iv_k (by decide) (by decide) : iv 1 1 1)) (iv_t p2) (by decide) (by decide)
        refine lv_aload_n hx hb dX11_loop_35 rfl (lv_at hl 0 rfl) ?_
        refine lv_iload_n hx hb dX11_loop_36 rfl (lv_at hl 1 rfl) ?_
        refine lv_iload_n hx hb dX11_loop_37 rfl (lv_at hl 2 rfl) ?_
        have hPc := hP.sub (ws' := [(m0, .inr (11, oX11 ra (upd x0 0 0))), (ra 9, .inl (kI, 40, .inl q_to)), (ra 10, .inl (kI, 6, .inl q_goal)), (ra 11, .inl (kI, 1019, .inl q_now))]) [7, 3, 4, 5] rfl
        have hDc := hD.sub (ws' := [(m0, .inr (11, oX11 ra (upd x0 0 0))), (ra 9, .inl (kI, 40, .inl q_to)), (ra 10, .inl (kI, 6, .inl q_goal)), (ra 11, .inl (kI, 1019, .inl q_now))]) [7, 3, 4, 5] (by decide +kernel) rfl
        have hFc := va_free (wc := [(m0, .inr (11, oX11 ra (upd x0 0 0))), (ra 9, .inl (kI, 40, .inl q_to)), (ra 10, .inl (kI, 6, .inl q_goal)), (ra 11, .inl (kI, 1019, .inl q_now))]) hD hS hA [7, 3, 4, 5] rfl
        refine va_calli (va_runV (As := [.int p0, .int p1]) (rest := []) ⟨hx, hb, hml, hown, hts⟩ (s11_loopOf l dC dI kB kI kJ kZ kC kS H.size m0 ra (upd x0 0 0) q_to q_goal q_now p0 p1 ((fI_u hX (k := 0) ((iv_w (iv_k (by decide) (by decide) : iv 0 0 0) (by decide) (by decide))))) (hq_to) (hq_goal) (hq_now) (b11) (b17)) (cwV 2 hts gX11_loop_X11_loopOf rfl rfl rfl (by decide +kernel) ⟨Nat.le_of_ble_eq_true rfl, Nat.le_of_ble_eq_true rfl⟩) ⟨fun a U g mk q => by obtain ⟨q0, q1, qP, qE, qD⟩ := q; exact ⟨q0, q1, qP, kE_call qE, qD⟩, va_recv hK hP (ci := 11) (q0 := 7) rfl rfl, fun U hU hW => ⟨rfl, by rw [hU], by rw [hU]; exact hPc, kE_warm hW hE, hDc.weaken (fun _ _ _ _ => trivial)⟩⟩ rfl rfl hl.1 rfl (lv_room (Nat.le_of_ble_eq_true rfl)) dX11_loop_38 ⟨Nat.le_of_ble_eq_true rfl, Nat.le_of_ble_eq_true rfl⟩) hS (fun q _ h => hFc q h) hFc (fun r24 u t H1 locs ht hvm w25 hB hz1 hk1 hS => ?_)
        obtain ⟨hP1, hD1⟩ := hB
        rw [ht] at hP1
        try dsimp only at w25
        obtain ⟨hP, hD⟩ := va_join (wr := [(ra 3, .inl (kI, 24, .inl q_kind)), (ra 7, .inl (kI, 24, .inl q_late)), (ra 8, .inl (kI, 40, .inl q_from)), (ra 14, .inl (kI, 12, .inl q_reach)), (ra 2, .inl (kI, 8, .inl q_told))]) (w1 := [(m0, .inr (11, oX11 ra (upd x0 0 0))), (ra 9, .inl (kI, 40, .inl q_to)), (ra 10, .inl (kI, 6, .inl q_goal)), (ra 11, .inl (kI, 1019, .inl q_now))]) hP hD [7, 3, 4, 5] [0, 1, 2, 6, 8] rfl rfl (by decide +kernel) (by decide +kernel) hk1 hFc hP1 hD1
        generalize H1 = H at hP hS ⊢
        have hP : va_P (dC, dI) vwCl [(ra 3, .inl (kI, 24, .inl q_kind)), (ra 7, .inl (kI, 24, .inl q_late)), (ra 8, .inl (kI, 40, .inl q_from)), (ra 14, .inl (kI, 12, .inl q_reach)), (ra 2, .inl (kI, 8, .inl q_told)), (m0, .inr (11, oX11 ra (upd x0 0 0))), (ra 9, .inl (kI, 40, .inl q_to)), (ra 10, .inl (kI, 6, .inl q_goal)), (ra 11, .inl (kI, 1019, .inl q_now))] H := hP
        have hD : va_D A [(ra 3, .inl (kI, 24, .inl q_kind)), (ra 7, .inl (kI, 24, .inl q_late)), (ra 8, .inl (kI, 40, .inl q_from)), (ra 14, .inl (kI, 12, .inl q_reach)), (ra 2, .inl (kI, 8, .inl q_told)), (m0, .inr (11, oX11 ra (upd x0 0 0))), (ra 9, .inl (kI, 40, .inl q_to)), (ra 10, .inl (kI, 6, .inl q_goal)), (ra 11, .inl (kI, 1019, .inl q_now))] := hD
        refine W.widen (k := 0) (n := 0) (Nat.le_of_ble_eq_true rfl) (Nat.le_of_ble_eq_true rfl) ?_
        refine lv_istore (lv' := [(4, .int r24), (0, .ref m0), (1, .int p0), (2, .int p1), (3, .int p2)]) hx hb dX11_loop_41 hl (by decide) rfl (fun ls hl => ?_)
        refine lv_iload_n hx hb dX11_loop_43 rfl (lv_at hl 4 rfl) ?_
        refine lv_if_ne (tgt := 52) hx hb dX11_loop_44 (by decide) (fun c26 => ?_) (fun c26 => ?_)
        · have b27 : iv 1 1 p2 := iv_neLo c26 b23 (iv_k (by decide) (by decide) : iv 0 0 0) (by decide) (by decide)
          refine lv_iload hx hb dX11_loop_52 (lv_at hl 0 rfl) ?_
          refine lv_iconst (v := (-1)) hx hb dX11_loop_54 (by decide) ?_
          refine lv_icmp_ne (tgt := 62) hx hb dX11_loop_55 (by decide) (fun c28 => ?_) (fun c28 => ?_)
          · have b29 : iv 0 9 r24 := iv_neLo c28 w25.1 (iv_k (by decide) (by decide) : iv (-1) (-1) (-1)) (by decide) (by decide)
            have b30 : iv 1 9 r24 := ((w25.2).resolve_left (iv_ne b29 (iv_k (by decide) (by decide) : iv (-1) (-1) (-1)) (by decide))).1
            have b31 : iv 0 20 (q_now ((59 + (10 * ((3 * p0) + p1)) + r24) - 1).toNatClampNeg - 1) := ((w25.2).resolve_left (iv_ne b30 (iv_k (by decide) (by decide) : iv (-1) (-1) (-1)) (by decide))).2
            refine lv_aload_n hx hb dX11_loop_62 rfl (lv_at hl 1 rfl) ?_
            refine lv_aload_n hx hb dX11_loop_63 rfl (lv_at hl 1 rfl) ?_
            refine lv_aload_n hx hb dX11_loop_64 rfl (lv_at hl 1 rfl) ?_
            refine lv_iload_n hx hb dX11_loop_65 rfl (lv_at hl 2 rfl) ?_
            refine lv_iload_n hx hb dX11_loop_66 rfl (lv_at hl 3 rfl) ?_
            refine lv_iload hx hb dX11_loop_67 (lv_at hl 0 rfl) ?_
            have hPc := hP.sub (ws' := [(m0, .inr (11, oX11 ra (upd x0 0 0))), (ra 11, .inl (kI, 1019, .inl q_now))]) [5, 8] rfl
            have hDc := hD.sub (ws' := [(m0, .inr (11, oX11 ra (upd x0 0 0))), (ra 11, .inl (kI, 1019, .inl q_now))]) [5, 8] (by decide +kernel) rfl
            have hFc := va_free (wc := [(m0, .inr (11, oX11 ra (upd x0 0 0))), (ra 11, .inl (kI, 1019, .inl q_now))]) hD hS hA [5, 8] rfl
            refine va_calli (va_runV (As := [.int p0, .int p1, .int r24]) (rest := [.ref m0, .ref m0]) ⟨hx, hb, hml, hown, hts⟩ (s11_seenBy l dC dI kB kI kJ kZ kC kS H.size m0 ra (upd x0 0 0) q_now p0 p1 r24 ((fI_u hX (k := 0) ((iv_w (iv_k (by decide) (by decide) : iv 0 0 0) (by decide) (by decide))))) (hq_now) (b11) (b17) ((iv_w b30 (by decide) (by decide)))) (cwV 3 hts gX11_loop_X11_seenBy rfl rfl rfl (by decide +kernel) ⟨Nat.le_of_ble_eq_true rfl, Nat.le_of_ble_eq_true rfl⟩) ⟨fun a U g mk q => by obtain ⟨q0, q1, qP, qE, qD⟩ := q; exact ⟨q0, q1, qP, kE_call qE, qD⟩, va_recv hK hP (ci := 11) (q0 := 5) rfl rfl, fun U hU hW => ⟨rfl, by rw [hU], by rw [hU]; exact hPc, kE_warm hW hE, hDc.weaken (fun _ _ _ _ => trivial)⟩⟩ rfl rfl hl.1 rfl (lv_room (Nat.le_of_ble_eq_true rfl)) dX11_loop_69 ⟨Nat.le_of_ble_eq_true rfl, Nat.le_of_ble_eq_true rfl⟩) hS (fun q _ h => hFc q h) hFc (fun r32 u t H1 locs ht hvm w33 hB hz1 hk1 hS => ?_)
            obtain ⟨hP1, hD1⟩ := hB
            rw [ht] at hP1
            try dsimp only at w33
            obtain ⟨hP, hD⟩ := va_join (wr := [(ra 3, .inl (kI, 24, .inl q_kind)), (ra 7, .inl (kI, 24, .inl q_late)), (ra 8, .inl (kI, 40, .inl q_from)), (ra 14, .inl (kI, 12, .inl q_reach)), (ra 2, .inl (kI, 8, .inl q_told)), (ra 9, .inl (kI, 40, .inl q_to)), (ra 10, .inl (kI, 6, .inl q_goal))]) (w1 := [(m0, .inr (11, oX11 ra (upd x0 0 0))), (ra 11, .inl (kI, 1019, .inl q_now))]) hP hD [5, 8] [0, 1, 2, 3, 4, 6, 7] rfl rfl (by decide +kernel) (by decide +kernel) hk1 hFc hP1 hD1
            generalize H1 = H at hP hS ⊢
            have hP : va_P (dC, dI) vwCl [(ra 3, .inl (kI, 24, .inl q_kind)), (ra 7, .inl (kI, 24, .inl q_late)), (ra 8, .inl (kI, 40, .inl q_from)), (ra 14, .inl (kI, 12, .inl q_reach)), (ra 2, .inl (kI, 8, .inl q_told)), (ra 9, .inl (kI, 40, .inl q_to)), (ra 10, .inl (kI, 6, .inl q_goal)), (m0, .inr (11, oX11 ra (upd x0 0 0))), (ra 11, .inl (kI, 1019, .inl q_now))] H := hP
            have hD : va_D A [(ra 3, .inl (kI, 24, .inl q_kind)), (ra 7, .inl (kI, 24, .inl q_late)), (ra 8, .inl (kI, 40, .inl q_from)), (ra 14, .inl (kI, 12, .inl q_reach)), (ra 2, .inl (kI, 8, .inl q_told)), (ra 9, .inl (kI, 40, .inl q_to)), (ra 10, .inl (kI, 6, .inl q_goal)), (m0, .inr (11, oX11 ra (upd x0 0 0))), (ra 11, .inl (kI, 1019, .inl q_now))] := hD
            refine W.widen (k := 0) (n := 0) (Nat.le_of_ble_eq_true rfl) (Nat.le_of_ble_eq_true rfl) ?_
            obtain ⟨w33, b34⟩ := w33
            subst w33
            have hPc := hP.sub (ws' := [(m0, .inr (11, oX11 ra (upd x0 0 0))), (ra 9, .inl (kI, 40, .inl q_to))]) [7, 5] rfl
            have hDc := hD.sub (ws' := [(m0, .inr (11, oX11 ra (upd x0 0 0))), (ra 9, .inl (kI, 40, .inl q_to))]) [7, 5] (by decide +kernel) rfl
            have hFc := va_free (wc := [(m0, .inr (11, oX11 ra (upd x0 0 0))), (ra 9, .inl (kI, 40, .inl q_to))]) hD hS hA [7, 5] rfl
            refine va_calli (va_runV (As := [.int (q_now ((59 + (10 * ((3 * p0) + p1)) + r24) - 1).toNatClampNeg - 1)]) (rest := [.ref m0]) ⟨hx, hb, hml, hown, hts⟩ (s11_routerOf l dC dI kB kI kJ kZ kC kS H.size m0 ra (upd x0 0 0) q_to (q_now ((59 + (10 * ((3 * p0) + p1)) + r24) - 1).toNatClampNeg - 1) ((fI_u hX (k := 0) ((iv_w (iv_k (by decide) (by decide) : iv 0 0 0) (by decide) (by decide))))) (hq_to) ((iv_w b31 (by decide) (by decide)))) (cwV 1 hts gX11_loop_X11_routerOf rfl rfl rfl (by decide +kernel) ⟨Nat.le_of_ble_eq_true rfl, Nat.le_of_ble_eq_true rfl⟩) ⟨fun a U g mk q => by obtain ⟨q0, q1, qP, qE, qD⟩ := q; exact ⟨q0, q1, qP, kE_call qE, qD⟩, va_recv hK hP (ci := 11) (q0 := 7) rfl rfl, fun U hU hW => ⟨rfl, by rw [hU], by rw [hU]; exact hPc, kE_warm hW hE, hDc.weaken (fun _ _ _ _ => trivial)⟩⟩ rfl rfl hl.1 rfl (lv_room (Nat.le_of_ble_eq_true rfl)) dX11_loop_72 ⟨Nat.le_of_ble_eq_true rfl, Nat.le_of_ble_eq_true rfl⟩) hS (fun q _ h => hFc q h) hFc (fun r35 u t H1 locs ht hvm w36 hB hz1 hk1 hS => ?_)
            obtain ⟨hP1, hD1⟩ := hB
            rw [ht] at hP1
            try dsimp only at w36
            obtain ⟨hP, hD⟩ := va_join (wr := [(ra 3, .inl (kI, 24, .inl q_kind)), (ra 7, .inl (kI, 24, .inl q_late)), (ra 8, .inl (kI, 40, .inl q_from)), (ra 14, .inl (kI, 12, .inl q_reach)), (ra 2, .inl (kI, 8, .inl q_told)), (ra 10, .inl (kI, 6, .inl q_goal)), (ra 11, .inl (kI, 1019, .inl q_now))]) (w1 := [(m0, .inr (11, oX11 ra (upd x0 0 0))), (ra 9, .inl (kI, 40, .inl q_to))]) hP hD [7, 5] [0, 1, 2, 3, 4, 6, 8] rfl rfl (by decide +kernel) (by decide +kernel) hk1 hFc hP1 hD1
            generalize H1 = H at hP hS ⊢
            have hP : va_P (dC, dI) vwCl [(ra 3, .inl (kI, 24, .inl q_kind)), (ra 7, .inl (kI, 24, .inl q_late)), (ra 8, .inl (kI, 40, .inl q_from)), (ra 14, .inl (kI, 12, .inl q_reach)), (ra 2, .inl (kI, 8, .inl q_told)), (ra 10, .inl (kI, 6, .inl q_goal)), (ra 11, .inl (kI, 1019, .inl q_now)), (m0, .inr (11, oX11 ra (upd x0 0 0))), (ra 9, .inl (kI, 40, .inl q_to))] H := hP
            have hD : va_D A [(ra 3, .inl (kI, 24, .inl q_kind)), (ra 7, .inl (kI, 24, .inl q_late)), (ra 8, .inl (kI, 40, .inl q_from)), (ra 14, .inl (kI, 12, .inl q_reach)), (ra 2, .inl (kI, 8, .inl q_told)), (ra 10, .inl (kI, 6, .inl q_goal)), (ra 11, .inl (kI, 1019, .inl q_now)), (m0, .inr (11, oX11 ra (upd x0 0 0))), (ra 9, .inl (kI, 40, .inl q_to))] := hD
            refine W.widen (k := 0) (n := 0) (Nat.le_of_ble_eq_true rfl) (Nat.le_of_ble_eq_true rfl) ?_
            have hPc := hP.sub (ws' := [(m0, .inr (11, oX11 ra (upd x0 0 0))), (ra 2, .inl (kI, 8, .inl q_told)), (ra 3, .inl (kI, 24, .inl q_kind)), (ra 7, .inl (kI, 24, .inl q_late)), (ra 8, .inl (kI, 40, .inl q_from)), (ra 9, .inl (kI, 40, .inl q_to)), (ra 14, .inl (kI, 12, .inl q_reach))]) [7, 4, 0, 1, 2, 8, 3] rfl
            have hDc := hD.sub (ws' := [(m0, .inr (11, oX11 ra (upd x0 0 0))), (ra 2, .inl (kI, 8, .inl q_told)), (ra 3, .inl (kI, 24, .inl q_kind)), (ra 7, .inl (kI, 24, .inl q_late)), (ra 8, .inl (kI, 40, .inl q_from)), (ra 9, .inl (kI, 40, .inl q_to)), (ra 14, .inl (kI, 12, .inl q_reach))]) [7, 4, 0, 1, 2, 8, 3] (by decide +kernel) rfl
            have hFc := va_free (wc := [(m0, .inr (11, oX11 ra (upd x0 0 0))), (ra 2, .inl (kI, 8, .inl q_told)), (ra 3, .inl (kI, 24, .inl q_kind)), (ra 7, .inl (kI, 24, .inl q_late)), (ra 8, .inl (kI, 40, .inl q_from)), (ra 9, .inl (kI, 40, .inl q_to)), (ra 14, .inl (kI, 12, .inl q_reach))]) hD hS hA [7, 4, 0, 1, 2, 8, 3] rfl
            refine va_calli (va_runV (As := [.int r35]) (rest := []) ⟨hx, hb, hml, hown, hts⟩ (s11_whyOf l dC dI kB kI kJ kZ kC kS H.size m0 ra (upd x0 0 0) q_told q_kind q_late q_from q_to q_reach r35 ((fI_u hX (k := 0) ((iv_w (iv_k (by decide) (by decide) : iv 0 0 0) (by decide) (by decide))))) (hq_told) (hq_from) (hq_to) (w36)) (cwV 1 hts gX11_loop_X11_whyOf rfl rfl rfl (by decide +kernel) ⟨Nat.le_of_ble_eq_true rfl, Nat.le_of_ble_eq_true rfl⟩) ⟨fun a U g mk q => by obtain ⟨q0, q1, qP, qE, qD⟩ := q; exact ⟨q0, q1, qP, kE_call qE, qD⟩, va_recv hK hP (ci := 11) (q0 := 7) rfl rfl, fun U hU hW => ⟨rfl, by rw [hU], by rw [hU]; exact hPc, kE_warm hW hE, hDc.weaken (fun _ _ _ _ => trivial)⟩⟩ rfl rfl hl.1 rfl (lv_room (Nat.le_of_ble_eq_true rfl)) dX11_loop_75 ⟨Nat.le_of_ble_eq_true rfl, Nat.le_of_ble_eq_true rfl⟩) hS (fun q _ h => hFc q h) hFc (fun r37 u t H1 locs ht hvm w38 hB hz1 hk1 hS => ?_)
            obtain ⟨hP1, hD1⟩ := hB
            rw [ht] at hP1
            try dsimp only at w38
            obtain ⟨hP, hD⟩ := va_join (wr := [(ra 10, .inl (kI, 6, .inl q_goal)), (ra 11, .inl (kI, 1019, .inl q_now))]) (w1 := [(m0, .inr (11, oX11 ra (upd x0 0 0))), (ra 2, .inl (kI, 8, .inl q_told)), (ra 3, .inl (kI, 24, .inl q_kind)), (ra 7, .inl (kI, 24, .inl q_late)), (ra 8, .inl (kI, 40, .inl q_from)), (ra 9, .inl (kI, 40, .inl q_to)), (ra 14, .inl (kI, 12, .inl q_reach))]) hP hD [7, 4, 0, 1, 2, 8, 3] [5, 6] rfl rfl (by decide +kernel) (by decide +kernel) hk1 hFc hP1 hD1
            generalize H1 = H at hP hS ⊢
            have hP : va_P (dC, dI) vwCl [(ra 10, .inl (kI, 6, .inl q_goal)), (ra 11, .inl (kI, 1019, .inl q_now)), (m0, .inr (11, oX11 ra (upd x0 0 0))), (ra 2, .inl (kI, 8, .inl q_told)), (ra 3, .inl (kI, 24, .inl q_kind)), (ra 7, .inl (kI, 24, .inl q_late)), (ra 8, .inl (kI, 40, .inl q_from)), (ra 9, .inl (kI, 40, .inl q_to)), (ra 14, .inl (kI, 12, .inl q_reach))] H := hP
            have hD : va_D A [(ra 10, .inl (kI, 6, .inl q_goal)), (ra 11, .inl (kI, 1019, .inl q_now)), (m0, .inr (11, oX11 ra (upd x0 0 0))), (ra 2, .inl (kI, 8, .inl q_told)), (ra 3, .inl (kI, 24, .inl q_kind)), (ra 7, .inl (kI, 24, .inl q_late)), (ra 8, .inl (kI, 40, .inl q_from)), (ra 9, .inl (kI, 40, .inl q_to)), (ra 14, .inl (kI, 12, .inl q_reach))] := hD
            refine W.widen (k := 0) (n := 0) (Nat.le_of_ble_eq_true rfl) (Nat.le_of_ble_eq_true rfl) ?_
            have hP9 := hP.sub (ws' := [(m0, .inr (11, oX11 ra (upd x0 0 0))), (ra 2, .inl (kI, 8, .inl q_told)), (ra 3, .inl (kI, 24, .inl q_kind)), (ra 7, .inl (kI, 24, .inl q_late)), (ra 8, .inl (kI, 40, .inl q_from)), (ra 9, .inl (kI, 40, .inl q_to)), (ra 10, .inl (kI, 6, .inl q_goal)), (ra 11, .inl (kI, 1019, .inl q_now)), (ra 14, .inl (kI, 12, .inl q_reach))]) [2, 3, 4, 5, 6, 7, 0, 1, 8] rfl
            have hD9 := hD.sub (ws' := [(m0, .inr (11, oX11 ra (upd x0 0 0))), (ra 2, .inl (kI, 8, .inl q_told)), (ra 3, .inl (kI, 24, .inl q_kind)), (ra 7, .inl (kI, 24, .inl q_late)), (ra 8, .inl (kI, 40, .inl q_from)), (ra 9, .inl (kI, 40, .inl q_to)), (ra 10, .inl (kI, 6, .inl q_goal)), (ra 11, .inl (kI, 1019, .inl q_now)), (ra 14, .inl (kI, 12, .inl q_reach))]) [2, 3, 4, 5, 6, 7, 0, 1, 8] (by decide +kernel) rfl
            exact W.iret (v := r37) hx hb hr (fun t ht hW => ⟨⟨r37, (), rfl, (iv_w w38 (by decide) (by decide)), upd x0 0 0, (fI_u hX (k := 0) ((iv_w (iv_k (by decide) (by decide) : iv 0 0 0) (by decide) (by decide)))), by rw [ht]; exact hP9, hD9⟩, hS.F ht⟩) hS.2.2 dX11_loop_78
          · have b39 : iv (-1) (-1) r24 := iv_eqL c28 (iv_k (by decide) (by decide) : iv (-1) (-1) (-1))
            refine lv_iconst (v := 0) hx hb dX11_loop_58 (by decide) ?_
            refine lv_goto (tgt := 78) hx hb dX11_loop_59 (by decide) ?_
            have hP9 := hP.sub (ws' := [(m0, .inr (11, oX11 ra (upd x0 0 0))), (ra 2, .inl (kI, 8, .inl q_told)), (ra 3, .inl (kI, 24, .inl q_kind)), (ra 7, .inl (kI, 24, .inl q_late)), (ra 8, .inl (kI, 40, .inl q_from)), (ra 9, .inl (kI, 40, .inl q_to)), (ra 10, .inl (kI, 6, .inl q_goal)), (ra 11, .inl (kI, 1019, .inl q_now)), (ra 14, .inl (kI, 12, .inl q_reach))]) [5, 4, 0, 1, 2, 6, 7, 8, 3] rfl
            have hD9 := hD.sub (ws' := [(m0, .inr (11, oX11 ra (upd x0 0 0))), (ra 2, .inl (kI, 8, .inl q_told)), (ra 3, .inl (kI, 24, .inl q_kind)), (ra 7, .inl (kI, 24, .inl q_late)), (ra 8, .inl (kI, 40, .inl q_from)), (ra 9, .inl (kI, 40, .inl q_to)), (ra 10, .inl (kI, 6, .inl q_goal)), (ra 11, .inl (kI, 1019, .inl q_now)), (ra 14, .inl (kI, 12, .inl q_reach))]) [5, 4, 0, 1, 2, 6, 7, 8, 3] (by decide +kernel) rfl
            exact W.iret (v := 0) hx hb hr (fun t ht hW => ⟨⟨0, (), rfl, (iv_w (iv_k (by decide) (by decide) : iv 0 0 0) (by decide) (by decide)), upd x0 0 0, (fI_u hX (k := 0) ((iv_w (iv_k (by decide) (by decide) : iv 0 0 0) (by decide) (by decide)))), by rw [ht]; exact hP9, hD9⟩, hS.F ht⟩) hS.2.2 dX11_loop_78
        · have b40 : iv 0 0 p2 := iv_eqL c26 (iv_k (by decide) (by decide) : iv 0 0 0)
          refine lv_iload hx hb dX11_loop_47 (lv_at hl 0 rfl) ?_
          refine lv_goto (tgt := 78) hx hb dX11_loop_49 (by decide) ?_
          have hP9 := hP.sub (ws' := [(m0, .inr (11, oX11 ra (upd x0 0 0))), (ra 2, .inl (kI, 8, .inl q_told)), (ra 3, .inl (kI, 24, .inl q_kind)), (ra 7, .inl (kI, 24, .inl q_late)), (ra 8, .inl (kI, 40, .inl q_from)), (ra 9, .inl (kI, 40, .inl q_to)), (ra 10, .inl (kI, 6, .inl q_goal)), (ra 11, .inl (kI, 1019, .inl q_now)), (ra 14, .inl (kI, 12, .inl q_reach))]) [5, 4, 0, 1, 2, 6, 7, 8, 3] rfl
          have hD9 := hD.sub (ws' := [(m0, .inr (11, oX11 ra (upd x0 0 0))), (ra 2, .inl (kI, 8, .inl q_told)), (ra 3, .inl (kI, 24, .inl q_kind)), (ra 7, .inl (kI, 24, .inl q_late)), (ra 8, .inl (kI, 40, .inl q_from)), (ra 9, .inl (kI, 40, .inl q_to)), (ra 10, .inl (kI, 6, .inl q_goal)), (ra 11, .inl (kI, 1019, .inl q_now)), (ra 14, .inl (kI, 12, .inl q_reach))]) [5, 4, 0, 1, 2, 6, 7, 8, 3] (by decide +kernel) rfl
          exact W.iret (v := r24) hx hb hr (fun t ht hW => ⟨⟨r24, (), rfl, w25.1, upd x0 0 0, (fI_u hX (k := 0) ((iv_w (iv_k (by decide) (by decide) : iv 0 0 0) (by decide) (by decide)))), by rw [ht]; exact hP9, hD9⟩, hS.F ht⟩) hS.2.2 dX11_loop_78
      · have b41 : iv 0 0 r18 := iv_eqL c20 (iv_k (by decide) (by decide) : iv 0 0 0)
        exact hJ29 (upd x0 0 0) _ _ _ ((fI_u hX (k := 0) ((iv_w (iv_k (by decide) (by decide) : iv 0 0 0) (by decide) (by decide))))) ((iv_k (by decide) (by decide) : iv 0 0 0)) (hP.sub [7, 8, 0, 1, 2, 3, 4, 5, 6] rfl) (hD.sub [7, 8, 0, 1, 2, 3, 4, 5, 6] (by decide +kernel) rfl) hS (lv_sub hl [0, 1, 2, 3] rfl)
def rm_s11_truth : Room := { frames := 4, cells := 0, slots := 0, locals := 93 }
set_option maxHeartbeats 4000000 in
set_option maxRecDepth 100000 in
theorem s11_truth (l : Launch) (dC : Nat → ClassId) (dI : Nat → Nat → Nat) (kB kI kJ kZ kC kS : ClassId) (sz : Nat) (m0 : Nat) (ra : Nat → Nat) (x0 : Nat → Int32) (q_told : Nat → Int32) (q_from : Nat → Int32) (q_to : Nat → Int32) (q_goal : Nat → Int32) (q_now : Nat → Int32) (q_reach : Nat → Int32) (q_isAt : Nat → Int32) (q_waysTo : Nat → Int32) (p0 : Int32) (p1 : Int32) (hX : fI lX11 hX11 x0) (hq_told : fI lTold hTold q_told) (hq_from : fI (fun _ => 0) (fun _ => 11) q_from) (hq_to : fI (fun _ => 0) (fun _ => 11) q_to) (hq_goal : fI (fun _ => 0) (fun _ => 11) q_goal) (hq_now : fI lNow hNow q_now) : Met l yX11_truth wsX11_truth rm_s11_truth (va_Pc [.ref m0, .int p0, .int p1] (fun U => U.heap.size = sz ∧ va_P (dC, dI) vwCl [(m0, .inr (11, oX11 ra x0)), (ra 2, .inl (kI, 8, .inl q_told)), (ra 8, .inl (kI, 40, .inl q_from)), (ra 9, .inl (kI, 40, .inl q_to)), (ra 10, .inl (kI, 6, .inl q_goal)), (ra 11, .inl (kI, 1019, .inl q_now)), (ra 14, .inl (kI, 12, .inl q_reach)), (ra 17, .inl (kZ, 168, .inl q_isAt)), (ra 18, .inl (kI, 12, .inl q_waysTo))] U.heap ∧ kE dC dI kB kI kJ kZ kC kS U ∧ va_D (fun _ => True) [(m0, .inr (11, oX11 ra x0)), (ra 2, .inl (kI, 8, .inl q_told)), (ra 8, .inl (kI, 40, .inl q_from)), (ra 9, .inl (kI, 40, .inl q_to)), (ra 10, .inl (kI, 6, .inl q_goal)), (ra 11, .inl (kI, 1019, .inl q_now)), (ra 14, .inl (kI, 12, .inl q_reach)), (ra 17, .inl (kZ, 168, .inl q_isAt)), (ra 18, .inl (kI, 12, .inl q_waysTo))])) (va_Qi (fun (r : Int32) (_ : Unit) => True) (fun _ t => ∃ (x0' : Nat → Int32) (q_isAt' : Nat → Int32) (q_waysTo' : Nat → Int32), fI lX11 hX11 x0' ∧ va_P (dC, dI) vwCl [(m0, .inr (11, oX11 ra x0')), (ra 2, .inl (kI, 8, .inl q_told)), (ra 8, .inl (kI, 40, .inl q_from)), (ra 9, .inl (kI, 40, .inl q_to)), (ra 10, .inl (kI, 6, .inl q_goal)), (ra 11, .inl (kI, 1019, .inl q_now)), (ra 14, .inl (kI, 12, .inl q_reach)), (ra 17, .inl (kZ, 168, .inl q_isAt')), (ra 18, .inl (kI, 12, .inl q_waysTo'))] t.heap ∧ va_D (va_A [(m0, .inr (11, oX11 ra x0)), (ra 2, .inl (kI, 8, .inl q_told)), (ra 8, .inl (kI, 40, .inl q_from)), (ra 9, .inl (kI, 40, .inl q_to)), (ra 10, .inl (kI, 6, .inl q_goal)), (ra 11, .inl (kI, 1019, .inl q_now)), (ra 14, .inl (kI, 12, .inl q_reach)), (ra 17, .inl (kZ, 168, .inl q_isAt)), (ra 18, .inl (kI, 12, .inl q_waysTo))] sz) [(m0, .inr (11, oX11 ra x0')), (ra 2, .inl (kI, 8, .inl q_told)), (ra 8, .inl (kI, 40, .inl q_from)), (ra 9, .inl (kI, 40, .inl q_to)), (ra 10, .inl (kI, 6, .inl q_goal)), (ra 11, .inl (kI, 1019, .inl q_now)), (ra 14, .inl (kI, 12, .inl q_reach)), (ra 17, .inl (kZ, 168, .inl q_isAt')), (ra 18, .inl (kI, 12, .inl q_waysTo'))]) (va_A [(m0, .inr (11, oX11 ra x0)), (ra 2, .inl (kI, 8, .inl q_told)), (ra 8, .inl (kI, 40, .inl q_from)), (ra 9, .inl (kI, 40, .inl q_to)), (ra 10, .inl (kI, 6, .inl q_goal)), (ra 11, .inl (kI, 1019, .inl q_now)), (ra 14, .inl (kI, 12, .inl q_reach)), (ra 17, .inl (kZ, 168, .inl q_isAt)), (ra 18, .inl (kI, 12, .inl q_waysTo))] sz)) 0 0 (va_A [(m0, .inr (11, oX11 ra x0)), (ra 2, .inl (kI, 8, .inl q_told)), (ra 8, .inl (kI, 40, .inl q_from)), (ra 9, .inl (kI, 40, .inl q_to)), (ra 10, .inl (kI, 6, .inl q_goal)), (ra 11, .inl (kI, 1019, .inl q_now)), (ra 14, .inl (kI, 12, .inl q_reach)), (ra 17, .inl (kZ, 168, .inl q_isAt)), (ra 18, .inl (kI, 12, .inl q_waysTo))] sz) := by
  refine Met.ofW (cc := cX11_truth) (maxL := 5) (ret := (some .int)) (by decide) rfl ?_
  intro p e s m args0 below meth c s₁ B hml hv
  obtain ⟨hargs, hsz, hP, hE, hD0⟩ := hv
  have hx := B.exec
  have hb := B.bytes
  have hr := B.returns
  have hts := atoms_spec (ws := wsX11_truth) B.pre
  have hown : s.vm.findClass RX11 = some m.cls := findClass_of_methodNamed B.named
  have hlocks := B.notSynchronized
  have hK := hE.1
  have hin11 : ∀ w ∈ wsX110, w ∈ wsX11_truth := fun _ h9 => List.mem_cons_of_mem _ (List.mem_append_right _ h9)
  have hw_0 := hts (.fieldLink RX11 142 "PathProberModel" "code" "I") (List.mem_of_getElem? (i := 1) (by decide +kernel))
  subst hsz
  have hD := hD0.self (sz := s.heap.size)
  generalize hAe : va_A [(m0, .inr (11, oX11 ra x0)), (ra 2, .inl (kI, 8, .inl q_told)), (ra 8, .inl (kI, 40, .inl q_from)), (ra 9, .inl (kI, 40, .inl q_to)), (ra 10, .inl (kI, 6, .inl q_goal)), (ra 11, .inl (kI, 1019, .inl q_now)), (ra 14, .inl (kI, 12, .inl q_reach)), (ra 17, .inl (kZ, 168, .inl q_isAt)), (ra 18, .inl (kI, 12, .inl q_waysTo))] s.heap.size = A at hD ⊢
  have hA : ∀ q : Nat, s.heap.size ≤ q → A q := fun q h => by rw [← hAe]; exact Or.inr h
  have hS : va_S A s.heap s.heap [] := va_S.rf
  have hP : va_P (dC, dI) vwCl [(m0, .inr (11, oX11 ra x0)), (ra 2, .inl (kI, 8, .inl q_told)), (ra 8, .inl (kI, 40, .inl q_from)), (ra 9, .inl (kI, 40, .inl q_to)), (ra 10, .inl (kI, 6, .inl q_goal)), (ra 11, .inl (kI, 1019, .inl q_now)), (ra 14, .inl (kI, 12, .inl q_reach)), (ra 17, .inl (kZ, 168, .inl q_isAt)), (ra 18, .inl (kI, 12, .inl q_waysTo))] s.heap := hP
  have hl := lv_entry ([.ref m0, .int p0, .int p1]) (n := 5) (Nat.le_of_ble_eq_true rfl)
  have hla : entryFrame m args0 5 = entryFrame m ([.ref m0, .int p0, .int p1] : List Value).toArray 5 := by rw [hargs]
  rw [hla, lg_entry_eq]
  generalize (lg_sl ([.ref m0, .int p0, .int p1]) ++ List.replicate (5 - (lg_sl ([.ref m0, .int p0, .int p1])).length) Slot.unset).toArray = ls at hl ⊢
  have hl : lv_has ls 5 [(0, .ref m0), (1, .int p0), (2, .int p1)] := hl
  have hJ22 : ∀ (y22_0 : Nat → Int32) (H : Heap) (locs : List Loc) (ls : Array Slot), fI lX11 hX11 y22_0 → iv 0 0 (y22_0 0) → va_P (dC, dI) vwCl [(m0, .inr (11, oX11 ra y22_0)), (ra 2, .inl (kI, 8, .inl q_told)), (ra 8, .inl (kI, 40, .inl q_from)), (ra 9, .inl (kI, 40, .inl q_to)), (ra 10, .inl (kI, 6, .inl q_goal)), (ra 11, .inl (kI, 1019, .inl q_now)), (ra 14, .inl (kI, 12, .inl q_reach)), (ra 17, .inl (kZ, 168, .inl q_isAt)), (ra 18, .inl (kI, 12, .inl q_waysTo))] H → va_D A [(m0, .inr (11, oX11 ra y22_0)), (ra 2, .inl (kI, 8, .inl q_told)), (ra 8, .inl (kI, 40, .inl q_from)), (ra 9, .inl (kI, 40, .inl q_to)), (ra 10, .inl (kI, 6, .inl q_goal)), (ra 11, .inl (kI, 1019, .inl q_now)), (ra 14, .inl (kI, 12, .inl q_reach)), (ra 17, .inl (kZ, 168, .inl q_isAt)), (ra 18, .inl (kI, 12, .inl q_waysTo))] → va_S A s.heap H locs → lv_has ls 5 [(0, .ref m0), (1, .int p0), (2, .int p1)] → W p l e (headSpec wsX11_truth rm_s11_truth).room s m args0 below meth c H locs (0) (0) (MQ below (va_Qi (fun (r : Int32) (_ : Unit) => True) (fun _ t => ∃ (x0' : Nat → Int32) (q_isAt' : Nat → Int32) (q_waysTo' : Nat → Int32), fI lX11 hX11 x0' ∧ va_P (dC, dI) vwCl [(m0, .inr (11, oX11 ra x0')), (ra 2, .inl (kI, 8, .inl q_told)), (ra 8, .inl (kI, 40, .inl q_from)), (ra 9, .inl (kI, 40, .inl q_to)), (ra 10, .inl (kI, 6, .inl q_goal)), (ra 11, .inl (kI, 1019, .inl q_now)), (ra 14, .inl (kI, 12, .inl q_reach)), (ra 17, .inl (kZ, 168, .inl q_isAt')), (ra 18, .inl (kI, 12, .inl q_waysTo'))] t.heap ∧ va_D A [(m0, .inr (11, oX11 ra x0')), (ra 2, .inl (kI, 8, .inl q_told)), (ra 8, .inl (kI, 40, .inl q_from)), (ra 9, .inl (kI, 40, .inl q_to)), (ra 10, .inl (kI, 6, .inl q_goal)), (ra 11, .inl (kI, 1019, .inl q_now)), (ra 14, .inl (kI, 12, .inl q_reach)), (ra 17, .inl (kZ, 168, .inl q_isAt')), (ra 18, .inl (kI, 12, .inl q_waysTo'))]) A) args0 s 0 0 A) (F0 m 22 ls []) := by
    intro y22_0 H locs ls hI22_0 h22_2 hP hD hS hl
    refine lv_aload_n hx hb dX11_truth_22 rfl (lv_at hl 0 rfl) ?_
    refine lv_iconst (v := 1) hx hb dX11_truth_23 (by decide) ?_
    have hPc := hP.sub (ws' := [(m0, .inr (11, oX11 ra y22_0))]) [0] rfl
    have hDc := hD.sub (ws' := [(m0, .inr (11, oX11 ra y22_0))]) [0] (by decide +kernel) rfl
    have hFc := va_free (wc := [(m0, .inr (11, oX11 ra y22_0))]) hD hS hA [0] rfl
    refine va_calli (va_runV (As := [.int 1]) (rest := []) ⟨hx, hb, hml, hown, hts⟩ (s11_fail l dC dI kB kI kJ kZ kC kS H.size m0 ra y22_0 1 (hI22_0)) (cwV 1 hts gX11_truth_X11_fail rfl rfl rfl (by decide +kernel) ⟨Nat.le_of_ble_eq_true rfl, Nat.le_of_ble_eq_true rfl⟩) ⟨fun a U g mk q => by obtain ⟨q0, q1, qP, qE, qD⟩ := q; exact ⟨q0, q1, qP, kE_call qE, qD⟩, va_recv hK hP (ci := 11) (q0 := 0) rfl rfl, fun U hU hW => ⟨rfl, by rw [hU], by rw [hU]; exact hPc, kE_warm hW hE, hDc.weaken (fun _ _ _ _ => trivial)⟩⟩ rfl rfl hl.1 rfl (lv_room (Nat.le_of_ble_eq_true rfl)) dX11_truth_24 ⟨Nat.le_of_ble_eq_true rfl, Nat.le_of_ble_eq_true rfl⟩) hS (fun q _ h => hFc q h) hFc (fun r1 u t H1 locs ht hvm w2 hB hz1 hk1 hS => ?_)
    obtain ⟨y3, hq4, hq5, hP1, hD1⟩ := hB
    rw [ht] at hP1
    try dsimp only at w2
    obtain ⟨hP, hD⟩ := va_join (wr := [(ra 2, .inl (kI, 8, .inl q_told)), (ra 8, .inl (kI, 40, .inl q_from)), (ra 9, .inl (kI, 40, .inl q_to)), (ra 10, .inl (kI, 6, .inl q_goal)), (ra 11, .inl (kI, 1019, .inl q_now)), (ra 14, .inl (kI, 12, .inl q_reach)), (ra 17, .inl (kZ, 168, .inl q_isAt)), (ra 18, .inl (kI, 12, .inl q_waysTo))]) (w1 := [(m0, .inr (11, oX11 ra y3))]) hP hD [0] [1, 2, 3, 4, 5, 6, 7, 8] rfl rfl (by decide +kernel) (by decide +kernel) hk1 hFc hP1 hD1
    generalize H1 = H at hP hS ⊢
    have hP : va_P (dC, dI) vwCl [(ra 2, .inl (kI, 8, .inl q_told)), (ra 8, .inl (kI, 40, .inl q_from)), (ra 9, .inl (kI, 40, .inl q_to)), (ra 10, .inl (kI, 6, .inl q_goal)), (ra 11, .inl (kI, 1019, .inl q_now)), (ra 14, .inl (kI, 12, .inl q_reach)), (ra 17, .inl (kZ, 168, .inl q_isAt)), (ra 18, .inl (kI, 12, .inl q_waysTo)), (m0, .inr (11, oX11 ra y3))] H := hP
    have hD : va_D A [(ra 2, .inl (kI, 8, .inl q_told)), (ra 8, .inl (kI, 40, .inl q_from)), (ra 9, .inl (kI, 40, .inl q_to)), (ra 10, .inl (kI, 6, .inl q_goal)), (ra 11, .inl (kI, 1019, .inl q_now)), (ra 14, .inl (kI, 12, .inl q_reach)), (ra 17, .inl (kZ, 168, .inl q_isAt)), (ra 18, .inl (kI, 12, .inl q_waysTo)), (m0, .inr (11, oX11 ra y3))] := hD
    refine W.widen (k := 0) (n := 0) (Nat.le_of_ble_eq_true rfl) (Nat.le_of_ble_eq_true rfl) ?_
    obtain rfl : r1 = 0 := iv_one w2 (by decide)
    have hP9 := hP.sub (ws' := [(m0, .inr (11, oX11 ra y3)), (ra 2, .inl (kI, 8, .inl q_told)), (ra 8, .inl (kI, 40, .inl q_from)), (ra 9, .inl (kI, 40, .inl q_to)), (ra 10, .inl (kI, 6, .inl q_goal)), (ra 11, .inl (kI, 1019, .inl q_now)), (ra 14, .inl (kI, 12, .inl q_reach)), (ra 17, .inl (kZ, 168, .inl q_isAt)), (ra 18, .inl (kI, 12, .inl q_waysTo))]) [8, 0, 1, 2, 3, 4, 5, 6, 7] rfl
    have hD9 := hD.sub (ws' := [(m0, .inr (11, oX11 ra y3)), (ra 2, .inl (kI, 8, .inl q_told)), (ra 8, .inl (kI, 40, .inl q_from)), (ra 9, .inl (kI, 40, .inl q_to)), (ra 10, .inl (kI, 6, .inl q_goal)), (ra 11, .inl (kI, 1019, .inl q_now)), (ra 14, .inl (kI, 12, .inl q_reach)), (ra 17, .inl (kZ, 168, .inl q_isAt)), (ra 18, .inl (kI, 12, .inl q_waysTo))]) [8, 0, 1, 2, 3, 4, 5, 6, 7] (by decide +kernel) rfl
    exact W.iret (v := 0) hx hb hr (fun t ht hW => ⟨⟨0, (), rfl, trivial, y3, q_isAt, q_waysTo, hq4, by rw [ht]; exact hP9, hD9⟩, hS.F ht⟩) hS.2.2 dX11_truth_27
  have hJ64 : ∀ (n : Nat) (y64_0 : Nat → Int32) (g64_7 : Nat → Int32) (v64_loc3 : Int32) (v64_loc4 : Int32) (H : Heap) (locs : List Loc) (ls : Array Slot), (11 - v64_loc4.toInt).toNat < n → fI lX11 hX11 y64_0 → iv 0 2 p0 → iv 3 3 p1 → iv 1 11 v64_loc4 → iv 0 0 (y64_0 0) → va_P (dC, dI) vwCl [(m0, .inr (11, oX11 ra y64_0)), (ra 2, .inl (kI, 8, .inl q_told)), (ra 8, .inl (kI, 40, .inl q_from)), (ra 9, .inl (kI, 40, .inl q_to)), (ra 10, .inl (kI, 6, .inl q_goal)), (ra 11, .inl (kI, 1019, .inl q_now)), (ra 14, .inl (kI, 12, .inl q_reach)), (ra 17, .inl (kZ, 168, .inl g64_7)), (ra 18, .inl (kI, 12, .inl q_waysTo))] H → va_D A [(m0, .inr (11, oX11 ra y64_0)), (ra 2, .inl (kI, 8, .inl q_told)), (ra 8, .inl (kI, 40, .inl q_from)), (ra 9, .inl (kI, 40, .inl q_to)), (ra 10, .inl (kI, 6, .inl q_goal)), (ra 11, .inl (kI, 1019, .inl q_now)), (ra 14, .inl (kI, 12, .inl q_reach)), (ra 17, .inl (kZ, 168, .inl g64_7)), (ra 18, .inl (kI, 12, .inl q_waysTo))] → va_S A s.heap H locs → lv_has ls 5 [(0, .ref m0), (1, .int p0), (2, .int p1), (3, .int v64_loc3), (4, .int v64_loc4)] → W p l e (headSpec wsX11_truth rm_s11_truth).room s m args0 below meth c H locs (0) (0) (MQ below (va_Qi (fun (r : Int32) (_ : Unit) => True) (fun _ t => ∃ (x0' : Nat → Int32) (q_isAt' : Nat → Int32) (q_waysTo' : Nat → Int32), fI lX11 hX11 x0' ∧ va_P (dC, dI) vwCl [(m0, .inr (11, oX11 ra x0')), (ra 2, .inl (kI, 8, .inl q_told)), (ra 8, .inl (kI, 40, .inl q_from)), (ra 9, .inl (kI, 40, .inl q_to)), (ra 10, .inl (kI, 6, .inl q_goal)), (ra 11, .inl (kI, 1019, .inl q_now)), (ra 14, .inl (kI, 12, .inl q_reach)), (ra 17, .inl (kZ, 168, .inl q_isAt')), (ra 18, .inl (kI, 12, .inl q_waysTo'))] t.heap ∧ va_D A [(m0, .inr (11, oX11 ra x0')), (ra 2, .inl (kI, 8, .inl q_told)), (ra 8, .inl (kI, 40, .inl q_from)), (ra 9, .inl (kI, 40, .inl q_to)), (ra 10, .inl (kI, 6, .inl q_goal)), (ra 11, .inl (kI, 1019, .inl q_now)), (ra 14, .inl (kI, 12, .inl q_reach)), (ra 17, .inl (kZ, 168, .inl q_isAt')), (ra 18, .inl (kI, 12, .inl q_waysTo'))]) A) args0 s 0 0 A) (F0 m 64 ls []) := by
    intro n
    induction n with
    | zero => intro y64_0 g64_7 v64_loc3 v64_loc4 H locs ls hm64; exact absurd hm64 (Nat.not_lt_zero _)
    | succ n ih64 =>
      intro y64_0 g64_7 v64_loc3 v64_loc4 H locs ls hm64 hI64_0 h64_2 h64_3 h64_4 h64_5 hP hD hS hl
      refine lv_iload hx hb dX11_truth_64 (lv_at hl 4 rfl) ?_
      refine lv_bipush (v := 10) hx hb dX11_truth_66 (by decide) ?_
      refine lv_icmp_gt (tgt := 90) hx hb dX11_truth_68 (by decide) (fun c6 => ?_) (fun c6 => ?_)
      · have b7 : iv 11 11 v64_loc4 := iv_ltR c6 (iv_k (by decide) (by decide) : iv 10 10 10) h64_4 (by decide) (by decide)
        refine lv_iload_n hx hb dX11_truth_90 rfl (lv_at hl 3 rfl) ?_
        have hP9 := hP.sub (ws' := [(m0, .inr (11, oX11 ra y64_0)), (ra 2, .inl (kI, 8, .inl q_told)), (ra 8, .inl (kI, 40, .inl q_from)), (ra 9, .inl (kI, 40, .inl q_to)), (ra 10, .inl (kI, 6, .inl q_goal)), (ra 11, .inl (kI, 1019, .inl q_now)), (ra 14, .inl (kI, 12, .inl q_reach)), (ra 17, .inl (kZ, 168, .inl g64_7)), (ra 18, .inl (kI, 12, .inl q_waysTo))]) [0, 1, 2, 3, 4, 5, 6, 7, 8] rfl
        have hD9 := hD.sub (ws' := [(m0, .inr (11, oX11 ra y64_0)), (ra 2, .inl (kI, 8, .inl q_told)), (ra 8, .inl (kI, 40, .inl q_from)), (ra 9, .inl (kI, 40, .inl q_to)), (ra 10, .inl (kI, 6, .inl q_goal)), (ra 11, .inl (kI, 1019, .inl q_now)), (ra 14, .inl (kI, 12, .inl q_reach)), (ra 17, .inl (kZ, 168, .inl g64_7)), (ra 18, .inl (kI, 12, .inl q_waysTo))]) [0, 1, 2, 3, 4, 5, 6, 7, 8] (by decide +kernel) rfl
        exact W.iret (v := v64_loc3) hx hb hr (fun t ht hW => ⟨⟨v64_loc3, (), rfl, trivial, y64_0, g64_7, q_waysTo, hI64_0, by rw [ht]; exact hP9, hD9⟩, hS.F ht⟩) hS.2.2 dX11_truth_91
      · have b8 : iv 1 10 v64_loc4 := iv_leL (Int32.not_lt.mp c6) h64_4 (iv_k (by decide) (by decide) : iv 10 10 10) (by decide) (by decide)
        refine lv_iload_n hx hb dX11_truth_71 rfl (lv_at hl 3 rfl) ?_
        refine lv_aload_n hx hb dX11_truth_72 rfl (lv_at hl 0 rfl) ?_
        refine lv_iload_n hx hb dX11_truth_73 rfl (lv_at hl 1 rfl) ?_
        refine lv_iload hx hb dX11_truth_74 (lv_at hl 4 rfl) ?_
        have hPc := hP.sub (ws' := [(m0, .inr (11, oX11 ra y64_0)), (ra 2, .inl (kI, 8, .inl q_told)), (ra 8, .inl (kI, 40, .inl q_from)), (ra 9, .inl (kI, 40, .inl q_to)), (ra 10, .inl (kI, 6, .inl q_goal)), (ra 11, .inl (kI, 1019, .inl q_now)), (ra 14, .inl (kI, 12, .inl q_reach)), (ra 17, .inl (kZ, 168, .inl g64_7))]) [0, 1, 2, 3, 4, 5, 6, 7] rfl
        have hDc := hD.sub (ws' := [(m0, .inr (11, oX11 ra y64_0)), (ra 2, .inl (kI, 8, .inl q_told)), (ra 8, .inl (kI, 40, .inl q_from)), (ra 9, .inl (kI, 40, .inl q_to)), (ra 10, .inl (kI, 6, .inl q_goal)), (ra 11, .inl (kI, 1019, .inl q_now)), (ra 14, .inl (kI, 12, .inl q_reach)), (ra 17, .inl (kZ, 168, .inl g64_7))]) [0, 1, 2, 3, 4, 5, 6, 7] (by decide +kernel) rfl
        have hFc := va_free (wc := [(m0, .inr (11, oX11 ra y64_0)), (ra 2, .inl (kI, 8, .inl q_told)), (ra 8, .inl (kI, 40, .inl q_from)), (ra 9, .inl (kI, 40, .inl q_to)), (ra 10, .inl (kI, 6, .inl q_goal)), (ra 11, .inl (kI, 1019, .inl q_now)), (ra 14, .inl (kI, 12, .inl q_reach)), (ra 17, .inl (kZ, 168, .inl g64_7))]) hD hS hA [0, 1, 2, 3, 4, 5, 6, 7] rfl
        refine va_calli (va_runV (As := [.int p0, .int v64_loc4]) (rest := [.int v64_loc3]) ⟨hx, hb, hml, hown, hts⟩ (s11_hidden l dC dI kB kI kJ kZ kC kS H.size m0 ra y64_0 q_told q_from q_to q_goal q_now q_reach g64_7 p0 v64_loc4 (hI64_0) (hq_told) (hq_from) (hq_to) (hq_goal) (hq_now) (h64_2) (b8)) (cwV 2 hts gX11_truth_X11_hidden rfl rfl rfl (by decide +kernel) ⟨Nat.le_of_ble_eq_true rfl, Nat.le_of_ble_eq_true rfl⟩) ⟨fun a U g mk q => by obtain ⟨q0, q1, qP, qE, qD⟩ := q; exact ⟨q0, q1, qP, kE_call qE, qD⟩, va_recv hK hP (ci := 11) (q0 := 0) rfl rfl, fun U hU hW => ⟨rfl, by rw [hU], by rw [hU]; exact hPc, kE_warm hW hE, hDc.weaken (fun _ _ _ _ => trivial)⟩⟩ rfl rfl hl.1 rfl (lv_room (Nat.le_of_ble_eq_true rfl)) dX11_truth_76 ⟨Nat.le_of_ble_eq_true rfl, Nat.le_of_ble_eq_true rfl⟩) hS (fun q _ h => hFc q h) hFc (fun r9 u t H1 locs ht hvm w10 hB hz1 hk1 hS => ?_)
        obtain ⟨f11, hP1, hD1⟩ := hB
        rw [ht] at hP1
        try dsimp only at w10
        obtain ⟨hP, hD⟩ := va_join (wr := [(ra 18, .inl (kI, 12, .inl q_waysTo))]) (w1 := [(m0, .inr (11, oX11 ra y64_0)), (ra 2, .inl (kI, 8, .inl q_told)), (ra 8, .inl (kI, 40, .inl q_from)), (ra 9, .inl (kI, 40, .inl q_to)), (ra 10, .inl (kI, 6, .inl q_goal)), (ra 11, .inl (kI, 1019, .inl q_now)), (ra 14, .inl (kI, 12, .inl q_reach)), (ra 17, .inl (kZ, 168, .inl f11))]) hP hD [0, 1, 2, 3, 4, 5, 6, 7] [8] rfl rfl (by decide +kernel) (by decide +kernel) hk1 hFc hP1 hD1
        generalize H1 = H at hP hS ⊢
        have hP : va_P (dC, dI) vwCl [(ra 18, .inl (kI, 12, .inl q_waysTo)), (m0, .inr (11, oX11 ra y64_0)), (ra 2, .inl (kI, 8, .inl q_told)), (ra 8, .inl (kI, 40, .inl q_from)), (ra 9, .inl (kI, 40, .inl q_to)), (ra 10, .inl (kI, 6, .inl q_goal)), (ra 11, .inl (kI, 1019, .inl q_now)), (ra 14, .inl (kI, 12, .inl q_reach)), (ra 17, .inl (kZ, 168, .inl f11))] H := hP
        have hD : va_D A [(ra 18, .inl (kI, 12, .inl q_waysTo)), (m0, .inr (11, oX11 ra y64_0)), (ra 2, .inl (kI, 8, .inl q_told)), (ra 8, .inl (kI, 40, .inl q_from)), (ra 9, .inl (kI, 40, .inl q_to)), (ra 10, .inl (kI, 6, .inl q_goal)), (ra 11, .inl (kI, 1019, .inl q_now)), (ra 14, .inl (kI, 12, .inl q_reach)), (ra 17, .inl (kZ, 168, .inl f11))] := hD
        refine W.widen (k := 0) (n := 0) (Nat.le_of_ble_eq_true rfl) (Nat.le_of_ble_eq_true rfl) ?_
        have hPc := hP.sub (ws' := []) [] rfl
        have hDc := hD.sub (ws' := []) [] (by decide +kernel) rfl
        have hFc := va_free (wc := []) hD hS hA [] rfl
        refine va_calli (va_runS (As := [.int r9]) (rest := [.int v64_loc3]) ⟨hx, hb, hml, hown, hts⟩ (sJ_bitCount l dC dI kB kI kJ kZ kC kS H.size r9) (va_cwS 1 hts gX11_truth_J6_bitCount_0f7a4 rfl rfl rfl (by decide +kernel) ⟨Nat.le_of_ble_eq_true rfl, Nat.le_of_ble_eq_true rfl⟩) ⟨fun a U g mk q => by obtain ⟨q0, q1, qP, qE, qD⟩ := q; exact ⟨q0, q1, qP, kE_call qE, qD⟩, fun U hU hW => ⟨rfl, by rw [hU], by rw [hU]; exact hPc, kE_warm hW hE, hDc.weaken (fun _ _ _ _ => trivial)⟩⟩ rfl rfl hl.1 rfl (lv_room (Nat.le_of_ble_eq_true rfl)) dX11_truth_79 ⟨Nat.le_of_ble_eq_true rfl, Nat.le_of_ble_eq_true rfl⟩) hS (fun q _ h => hFc q h) hFc (fun r12 u t H1 locs ht hvm w13 hB hz1 hk1 hS => ?_)
        obtain ⟨hP1, hD1⟩ := hB
        rw [ht] at hP1
        try dsimp only at w13
        obtain ⟨hP, hD⟩ := va_join (wr := [(ra 18, .inl (kI, 12, .inl q_waysTo)), (m0, .inr (11, oX11 ra y64_0)), (ra 2, .inl (kI, 8, .inl q_told)), (ra 8, .inl (kI, 40, .inl q_from)), (ra 9, .inl (kI, 40, .inl q_to)), (ra 10, .inl (kI, 6, .inl q_goal)), (ra 11, .inl (kI, 1019, .inl q_now)), (ra 14, .inl (kI, 12, .inl q_reach)), (ra 17, .inl (kZ, 168, .inl f11))]) (w1 := []) hP hD [] [0, 1, 2, 3, 4, 5, 6, 7, 8] rfl rfl (by decide +kernel) (by decide +kernel) hk1 hFc hP1 hD1
        generalize H1 = H at hP hS ⊢
        have hP : va_P (dC, dI) vwCl [(ra 18, .inl (kI, 12, .inl q_waysTo)), (m0, .inr (11, oX11 ra y64_0)), (ra 2, .inl (kI, 8, .inl q_told)), (ra 8, .inl (kI, 40, .inl q_from)), (ra 9, .inl (kI, 40, .inl q_to)), (ra 10, .inl (kI, 6, .inl q_goal)), (ra 11, .inl (kI, 1019, .inl q_now)), (ra 14, .inl (kI, 12, .inl q_reach)), (ra 17, .inl (kZ, 168, .inl f11))] H := hP
        have hD : va_D A [(ra 18, .inl (kI, 12, .inl q_waysTo)), (m0, .inr (11, oX11 ra y64_0)), (ra 2, .inl (kI, 8, .inl q_told)), (ra 8, .inl (kI, 40, .inl q_from)), (ra 9, .inl (kI, 40, .inl q_to)), (ra 10, .inl (kI, 6, .inl q_goal)), (ra 11, .inl (kI, 1019, .inl q_now)), (ra 14, .inl (kI, 12, .inl q_reach)), (ra 17, .inl (kZ, 168, .inl f11))] := hD
        refine W.widen (k := 0) (n := 0) (Nat.le_of_ble_eq_true rfl) (Nat.le_of_ble_eq_true rfl) ?_
        refine lv_iadd hx hb dX11_truth_82 ?_
        refine lv_topi (fun z14 _ => ?_)
        refine lv_istore_n (lv' := [(3, .int z14), (0, .ref m0), (1, .int p0), (2, .int p1), (4, .int v64_loc4)]) hx hb dX11_truth_83 rfl hl (by decide) rfl (fun ls hl => ?_)
        refine lv_iinc (v := v64_loc4 + Int32.ofInt 1) (lv' := [(4, .int (v64_loc4 + Int32.ofInt 1)), (3, .int z14), (0, .ref m0), (1, .int p0), (2, .int p1)]) hx hb dX11_truth_84 hl (k := 4) rfl (rfl) (by decide) rfl (fun ls hl => ?_)
        have b15 : iv 2 11 (v64_loc4 + Int32.ofInt 1) := iv_add b8 (iv_k (by decide) (by decide) : iv 1 1 (Int32.ofInt 1)) (by decide) (by decide) (by decide) (by decide)
        refine lv_goto (tgt := 64) hx hb dX11_truth_87 (by decide) ?_
        exact ih64 y64_0 f11 z14 (v64_loc4 + Int32.ofInt 1) _ _ _ (ms_up (c := 1) (d := 0) b8 hm64 (by decide) (iv_inc 1 b8 (by decide) (by decide) (by decide) (by decide)) (by decide) rfl) (hI64_0) (h64_2) (h64_3) ((iv_w b15 (by decide) (by decide))) (h64_5) (hP.sub [1, 2, 3, 4, 5, 6, 7, 8, 0] rfl) (hD.sub [1, 2, 3, 4, 5, 6, 7, 8, 0] (by decide +kernel) rfl) hS (lv_sub hl [2, 3, 4, 1, 0] rfl)
  have hJ55 : ∀ (y55_0 : Nat → Int32) (v55_stk0 : Int32) (H : Heap) (locs : List Loc) (ls : Array Slot), fI lX11 hX11 y55_0 → iv 0 2 p0 → iv 1 2 p1 → iv 0 1 v55_stk0 → iv 0 0 (y55_0 0) → va_P (dC, dI) vwCl [(m0, .inr (11, oX11 ra y55_0)), (ra 2, .inl (kI, 8, .inl q_told)), (ra 8, .inl (kI, 40, .inl q_from)), (ra 9, .inl (kI, 40, .inl q_to)), (ra 10, .inl (kI, 6, .inl q_goal)), (ra 11, .inl (kI, 1019, .inl q_now)), (ra 14, .inl (kI, 12, .inl q_reach)), (ra 17, .inl (kZ, 168, .inl q_isAt)), (ra 18, .inl (kI, 12, .inl q_waysTo))] H → va_D A [(m0, .inr (11, oX11 ra y55_0)), (ra 2, .inl (kI, 8, .inl q_told)), (ra 8, .inl (kI, 40, .inl q_from)), (ra 9, .inl (kI, 40, .inl q_to)), (ra 10, .inl (kI, 6, .inl q_goal)), (ra 11, .inl (kI, 1019, .inl q_now)), (ra 14, .inl (kI, 12, .inl q_reach)), (ra 17, .inl (kZ, 168, .inl q_isAt)), (ra 18, .inl (kI, 12, .inl q_waysTo))] → va_S A s.heap H locs → lv_has ls 5 [(0, .ref m0), (1, .int p0), (2, .int p1)] → W p l e (headSpec wsX11_truth rm_s11_truth).room s m args0 below meth c H locs (0) (0) (MQ below (va_Qi (fun (r : Int32) (_ : Unit) => True) (fun _ t => ∃ (x0' : Nat → Int32) (q_isAt' : Nat → Int32) (q_waysTo' : Nat → Int32), fI lX11 hX11 x0' ∧ va_P (dC, dI) vwCl [(m0, .inr (11, oX11 ra x0')), (ra 2, .inl (kI, 8, .inl q_told)), (ra 8, .inl (kI, 40, .inl q_from)), (ra 9, .inl (kI, 40, .inl q_to)), (ra 10, .inl (kI, 6, .inl q_goal)), (ra 11, .inl (kI, 1019, .inl q_now)), (ra 14, .inl (kI, 12, .inl q_reach)), (ra 17, .inl (kZ, 168, .inl q_isAt')), (ra 18, .inl (kI, 12, .inl q_waysTo'))] t.heap ∧ va_D A [(m0, .inr (11, oX11 ra x0')), (ra 2, .inl (kI, 8, .inl q_told)), (ra 8, .inl (kI, 40, .inl q_from)), (ra 9, .inl (kI, 40, .inl q_to)), (ra 10, .inl (kI, 6, .inl q_goal)), (ra 11, .inl (kI, 1019, .inl q_now)), (ra 14, .inl (kI, 12, .inl q_reach)), (ra 17, .inl (kZ, 168, .inl q_isAt')), (ra 18, .inl (kI, 12, .inl q_waysTo'))]) A) args0 s 0 0 A) (F0 m 55 ls [.int v55_stk0, .int p0, .ref m0]) := by
    intro y55_0 v55_stk0 H locs ls hI55_0 h55_2 h55_3 h55_4 h55_5 hP hD hS hl
    have hPc := hP.sub (ws' := [(m0, .inr (11, oX11 ra y55_0)), (ra 2, .inl (kI, 8, .inl q_told)), (ra 8, .inl (kI, 40, .inl q_from)), (ra 9, .inl (kI, 40, .inl q_to)), (ra 10, .inl (kI, 6, .inl q_goal)), (ra 14, .inl (kI, 12, .inl q_reach)), (ra 17, .inl (kZ, 168, .inl q_isAt))]) [0, 1, 2, 3, 4, 6, 7] rfl
    have hDc := hD.sub (ws' := [(m0, .inr (11, oX11 ra y55_0)), (ra 2, .inl (kI, 8, .inl q_told)), (ra 8, .inl (kI, 40, .inl q_from)), (ra 9, .inl (kI, 40, .inl q_to)), (ra 10, .inl (kI, 6, .inl q_goal)), (ra 14, .inl (kI, 12, .inl q_reach)), (ra 17, .inl (kZ, 168, .inl q_isAt))]) [0, 1, 2, 3, 4, 6, 7] (by decide +kernel) rfl
    have hFc := va_free (wc := [(m0, .inr (11, oX11 ra y55_0)), (ra 2, .inl (kI, 8, .inl q_told)), (ra 8, .inl (kI, 40, .inl q_from)), (ra 9, .inl (kI, 40, .inl q_to)), (ra 10, .inl (kI, 6, .inl q_goal)), (ra 14, .inl (kI, 12, .inl q_reach)), (ra 17, .inl (kZ, 168, .inl q_isAt))]) hD hS hA [0, 1, 2, 3, 4, 6, 7] rfl
    refine va_calli (va_runV (As := [.int p0, .int v55_stk0]) (rest := []) ⟨hx, hb, hml, hown, hts⟩ (s11_length l dC dI kB kI kJ kZ kC kS H.size m0 ra y55_0 q_told q_from q_to q_goal q_reach q_isAt p0 v55_stk0 (hI55_0) (hq_told) (hq_from) (hq_to) (hq_goal) (h55_2) (h55_4)) (cwV 2 hts gX11_truth_X11_length rfl rfl rfl (by decide +kernel) ⟨Nat.le_of_ble_eq_true rfl, Nat.le_of_ble_eq_true rfl⟩) ⟨fun a U g mk q => by obtain ⟨q0, q1, qP, qE, qD⟩ := q; exact ⟨q0, q1, qP, kE_call qE, qD⟩, va_recv hK hP (ci := 11) (q0 := 0) rfl rfl, fun U hU hW => ⟨rfl, by rw [hU], by rw [hU]; exact hPc, kE_warm hW hE, hDc.weaken (fun _ _ _ _ => trivial)⟩⟩ rfl rfl hl.1 rfl (lv_room (Nat.le_of_ble_eq_true rfl)) dX11_truth_55 ⟨Nat.le_of_ble_eq_true rfl, Nat.le_of_ble_eq_true rfl⟩) hS (fun q _ h => hFc q h) hFc (fun r16 u t H1 locs ht hvm w17 hB hz1 hk1 hS => ?_)
    obtain ⟨f18, hP1, hD1⟩ := hB
    rw [ht] at hP1
    try dsimp only at w17
    obtain ⟨hP, hD⟩ := va_join (wr := [(ra 11, .inl (kI, 1019, .inl q_now)), (ra 18, .inl (kI, 12, .inl q_waysTo))]) (w1 := [(m0, .inr (11, oX11 ra y55_0)), (ra 2, .inl (kI, 8, .inl q_told)), (ra 8, .inl (kI, 40, .inl q_from)), (ra 9, .inl (kI, 40, .inl q_to)), (ra 10, .inl (kI, 6, .inl q_goal)), (ra 14, .inl (kI, 12, .inl q_reach)), (ra 17, .inl (kZ, 168, .inl f18))]) hP hD [0, 1, 2, 3, 4, 6, 7] [5, 8] rfl rfl (by decide +kernel) (by decide +kernel) hk1 hFc hP1 hD1
    generalize H1 = H at hP hS ⊢
    have hP : va_P (dC, dI) vwCl [(ra 11, .inl (kI, 1019, .inl q_now)), (ra 18, .inl (kI, 12, .inl q_waysTo)), (m0, .inr (11, oX11 ra y55_0)), (ra 2, .inl (kI, 8, .inl q_told)), (ra 8, .inl (kI, 40, .inl q_from)), (ra 9, .inl (kI, 40, .inl q_to)), (ra 10, .inl (kI, 6, .inl q_goal)), (ra 14, .inl (kI, 12, .inl q_reach)), (ra 17, .inl (kZ, 168, .inl f18))] H := hP
    have hD : va_D A [(ra 11, .inl (kI, 1019, .inl q_now)), (ra 18, .inl (kI, 12, .inl q_waysTo)), (m0, .inr (11, oX11 ra y55_0)), (ra 2, .inl (kI, 8, .inl q_told)), (ra 8, .inl (kI, 40, .inl q_from)), (ra 9, .inl (kI, 40, .inl q_to)), (ra 10, .inl (kI, 6, .inl q_goal)), (ra 14, .inl (kI, 12, .inl q_reach)), (ra 17, .inl (kZ, 168, .inl f18))] := hD
    refine W.widen (k := 0) (n := 0) (Nat.le_of_ble_eq_true rfl) (Nat.le_of_ble_eq_true rfl) ?_
    have hP9 := hP.sub (ws' := [(m0, .inr (11, oX11 ra y55_0)), (ra 2, .inl (kI, 8, .inl q_told)), (ra 8, .inl (kI, 40, .inl q_from)), (ra 9, .inl (kI, 40, .inl q_to)), (ra 10, .inl (kI, 6, .inl q_goal)), (ra 11, .inl (kI, 1019, .inl q_now)), (ra 14, .inl (kI, 12, .inl q_reach)), (ra 17, .inl (kZ, 168, .inl f18)), (ra 18, .inl (kI, 12, .inl q_waysTo))]) [2, 3, 4, 5, 6, 0, 7, 8, 1] rfl
    have hD9 := hD.sub (ws' := [(m0, .inr (11, oX11 ra y55_0)), (ra 2, .inl (kI, 8, .inl q_told)), (ra 8, .inl (kI, 40, .inl q_from)), (ra 9, .inl (kI, 40, .inl q_to)), (ra 10, .inl (kI, 6, .inl q_goal)), (ra 11, .inl (kI, 1019, .inl q_now)), (ra 14, .inl (kI, 12, .inl q_reach)), (ra 17, .inl (kZ, 168, .inl f18)), (ra 18, .inl (kI, 12, .inl q_waysTo))]) [2, 3, 4, 5, 6, 0, 7, 8, 1] (by decide +kernel) rfl
    exact W.iret (v := r16) hx hb hr (fun t ht hW => ⟨⟨r16, (), rfl, trivial, y55_0, f18, q_waysTo, hI55_0, by rw [ht]; exact hP9, hD9⟩, hS.F ht⟩) hS.2.2 dX11_truth_58
  refine lv_aload_n hx hb dX11_truth_0 rfl (lv_at hl 0 rfl) ?_
  refine lv_iconst (v := 0) hx hb dX11_truth_1 (by decide) ?_
  refine va_put (D := (dC, dI)) (ci := 11) (v := .int 0) (ty := .int) (C := RX11) (T := TX11) (N := 61) hx hb hts hin11 tyX11 tyX11_ok nmX11 hown hK hP hD hS 0 rfl rfl 2 (by decide) hw_0 (fun _ h9 => h9) rfl (by decide +kernel) rfl rfl (Nat.le_of_ble_eq_true rfl) dX11_truth_2 (fun H locs hP hD hS => ?_)
  have hP : va_P (dC, dI) vwCl [(m0, .inr (11, oX11 ra (upd x0 0 0))), (ra 2, .inl (kI, 8, .inl q_told)), (ra 8, .inl (kI, 40, .inl q_from)), (ra 9, .inl (kI, 40, .inl q_to)), (ra 10, .inl (kI, 6, .inl q_goal)), (ra 11, .inl (kI, 1019, .inl q_now)), (ra 14, .inl (kI, 12, .inl q_reach)), (ra 17, .inl (kZ, 168, .inl q_isAt)), (ra 18, .inl (kI, 12, .inl q_waysTo))] H := hP
  have hD : va_D A [(m0, .inr (11, oX11 ra (upd x0 0 0))), (ra 2, .inl (kI, 8, .inl q_told)), (ra 8, .inl (kI, 40, .inl q_from)), (ra 9, .inl (kI, 40, .inl q_to)), (ra 10, .inl (kI, 6, .inl q_goal)), (ra 11, .inl (kI, 1019, .inl q_now)), (ra 14, .inl (kI, 12, .inl q_reach)), (ra 17, .inl (kZ, 168, .inl q_isAt)), (ra 18, .inl (kI, 12, .inl q_waysTo))] := hD
  refine lv_aload_n hx hb dX11_truth_5 rfl (lv_at hl 0 rfl) ?_
  refine lv_iload_n hx hb dX11_truth_6 rfl (lv_at hl 1 rfl) ?_
  have hPc := hP.sub (ws' := [(m0, .inr (11, oX11 ra (upd x0 0 0))), (ra 2, .inl (kI, 8, .inl q_told))]) [0, 1] rfl
  have hDc := hD.sub (ws' := [(m0, .inr (11, oX11 ra (upd x0 0 0))), (ra 2, .inl (kI, 8, .inl q_told))]) [0, 1] (by decide +kernel) rfl
  have hFc := va_free (wc := [(m0, .inr (11, oX11 ra (upd x0 0 0))), (ra 2, .inl (kI, 8, .inl q_told))]) hD hS hA [0, 1] rfl
  refine va_calli (va_runV (As := [.int p0]) (rest := []) ⟨hx, hb, hml, hown, hts⟩ (s11_isGoal l dC dI kB kI kJ kZ kC kS H.size m0 ra (upd x0 0 0) q_told p0 ((fI_u hX (k := 0) ((iv_w (iv_k (by decide) (by decide) : iv 0 0 0) (by decide) (by decide))))) (hq_told)) (cwV 1 hts gX11_truth_X11_isGoal rfl rfl rfl (by decide +kernel) ⟨Nat.le_of_ble_eq_true rfl, Nat.le_of_ble_eq_true rfl⟩) ⟨fun a U g mk q => by obtain ⟨q0, q1, qP, qE, qD⟩ := q; exact ⟨q0, q1, qP, kE_call qE, qD⟩, va_recv hK hP (ci := 11) (q0 := 0) rfl rfl, fun U hU hW => ⟨rfl, by rw [hU], by rw [hU]; exact hPc, kE_warm hW hE, hDc.weaken (fun _ _ _ _ => trivial)⟩⟩ rfl rfl hl.1 rfl (lv_room (Nat.le_of_ble_eq_true rfl)) dX11_truth_7 ⟨Nat.le_of_ble_eq_true rfl, Nat.le_of_ble_eq_true rfl⟩) hS (fun q _ h => hFc q h) hFc (fun r19 u t H1 locs ht hvm w20 hB hz1 hk1 hS => ?_)
  obtain ⟨hP1, hD1⟩ := hB
  rw [ht] at hP1
  try dsimp only at w20
  obtain ⟨hP, hD⟩ := va_join (wr := [(ra 8, .inl (kI, 40, .inl q_from)), (ra 9, .inl (kI, 40, .inl q_to)), (ra 10, .inl (kI, 6, .inl q_goal)), (ra 11, .inl (kI, 1019, .inl q_now)), (ra 14, .inl (kI, 12, .inl q_reach)), (ra 17, .inl (kZ, 168, .inl q_isAt)), (ra 18, .inl (kI, 12, .inl q_waysTo))]) (w1 := [(m0, .inr (11, oX11 ra (upd x0 0 0))), (ra 2, .inl (kI, 8, .inl q_told))]) hP hD [0, 1] [2, 3, 4, 5, 6, 7, 8] rfl rfl (by decide +kernel) (by decide +kernel) hk1 hFc hP1 hD1
  generalize H1 = H at hP hS ⊢
  have hP : va_P (dC, dI) vwCl [(ra 8, .inl (kI, 40, .inl q_from)), (ra 9, .inl (kI, 40, .inl q_to)), (ra 10, .inl (kI, 6, .inl q_goal)), (ra 11, .inl (kI, 1019, .inl q_now)), (ra 14, .inl (kI, 12, .inl q_reach)), (ra 17, .inl (kZ, 168, .inl q_isAt)), (ra 18, .inl (kI, 12, .inl q_waysTo)), (m0, .inr (11, oX11 ra (upd x0 0 0))), (ra 2, .inl (kI, 8, .inl q_told))] H := hP
  have hD : va_D A [(ra 8, .inl (kI, 40, .inl q_from)), (ra 9, .inl (kI, 40, .inl q_to)), (ra 10, .inl (kI, 6, .inl q_goal)), (ra 11, .inl (kI, 1019, .inl q_now)), (ra 14, .inl (kI, 12, .inl q_reach)), (ra 17, .inl (kZ, 168, .inl q_isAt)), (ra 18, .inl (kI, 12, .inl q_waysTo)), (m0, .inr (11, oX11 ra (upd x0 0 0))), (ra 2, .inl (kI, 8, .inl q_told))] := hD
  refine W.widen (k := 0) (n := 0) (Nat.le_of_ble_eq_true rfl) (Nat.le_of_ble_eq_true rfl) ?_
  refine lv_if_eq (tgt := 22) hx hb dX11_truth_10 (by decide) (fun c21 => ?_) (fun c21 => ?_)
  · have b22 : iv 0 0 r19 := iv_eqL c21 (iv_k (by decide) (by decide) : iv 0 0 0)
    exact hJ22 (upd x0 0 0) _ _ _ ((fI_u hX (k := 0) ((iv_w (iv_k (by decide) (by decide) : iv 0 0 0) (by decide) (by decide))))) ((iv_k (by decide) (by decide) : iv 0 0 0)) (hP.sub [7, 8, 0, 1, 2, 3, 4, 5, 6] rfl) (hD.sub [7, 8, 0, 1, 2, 3, 4, 5, 6] (by decide +kernel) rfl) hS (lv_sub hl [0, 1, 2] rfl)
  · have b23 : iv 1 1 r19 := iv_neLo c21 w20.1 (iv_k (by decide) (by decide) : iv 0 0 0) (by decide) (by decide)
    have b24 : iv 0 2 p0 := (w20.2).resolve_left (iv_ne b23 (iv_k (by decide) (by decide) : iv 0 0 0) (by decide))
    refine lv_iload_n hx hb dX11_truth_13 rfl (lv_at hl 2 rfl) ?_
    refine lv_iconst (v := 0) hx hb dX11_truth_14 (by decide) ?_
    refine lv_iconst (v := 3) hx hb dX11_truth_15 (by decide) ?_
    have hPc := hP.sub (ws' := []) [] rfl
    have hDc := hD.sub (ws' := []) [] (by decide +kernel) rfl
    have hFc := va_free (wc := []) hD hS hA [] rfl
    refine va_calli (va_runS (As := [.int p1, .int 0, .int 3]) (rest := []) ⟨hx, hb, hml, hown, hts⟩ (s11_isIn l dC dI kB kI kJ kZ kC kS H.size p1 0 3) (va_cwS 3 hts gX11_truth_X11_isIn rfl rfl rfl (by decide +kernel) ⟨Nat.le_of_ble_eq_true rfl, Nat.le_of_ble_eq_true rfl⟩) ⟨fun a U g mk q => by obtain ⟨q0, q1, qP, qE, qD⟩ := q; exact ⟨q0, q1, qP, kE_call qE, qD⟩, fun U hU hW => ⟨rfl, by rw [hU], by rw [hU]; exact hPc, kE_warm hW hE, hDc.weaken (fun _ _ _ _ => trivial)⟩⟩ rfl rfl hl.1 rfl (lv_room (Nat.le_of_ble_eq_true rfl)) dX11_truth_16 ⟨Nat.le_of_ble_eq_true rfl, Nat.le_of_ble_eq_true rfl⟩) hS (fun q _ h => hFc q h) hFc (fun r25 u t H1 locs ht hvm w26 hB hz1 hk1 hS => ?_)
    obtain ⟨hP1, hD1⟩ := hB
    rw [ht] at hP1
    try dsimp only at w26
    obtain ⟨hP, hD⟩ := va_join (wr := [(ra 8, .inl (kI, 40, .inl q_from)), (ra 9, .inl (kI, 40, .inl q_to)), (ra 10, .inl (kI, 6, .inl q_goal)), (ra 11, .inl (kI, 1019, .inl q_now)), (ra 14, .inl (kI, 12, .inl q_reach)), (ra 17, .inl (kZ, 168, .inl q_isAt)), (ra 18, .inl (kI, 12, .inl q_waysTo)), (m0, .inr (11, oX11 ra (upd x0 0 0))), (ra 2, .inl (kI, 8, .inl q_told))]) (w1 := []) hP hD [] [0, 1, 2, 3, 4, 5, 6, 7, 8] rfl rfl (by decide +kernel) (by decide +kernel) hk1 hFc hP1 hD1
    generalize H1 = H at hP hS ⊢
    have hP : va_P (dC, dI) vwCl [(ra 8, .inl (kI, 40, .inl q_from)), (ra 9, .inl (kI, 40, .inl q_to)), (ra 10, .inl (kI, 6, .inl q_goal)), (ra 11, .inl (kI, 1019, .inl q_now)), (ra 14, .inl (kI, 12, .inl q_reach)), (ra 17, .inl (kZ, 168, .inl q_isAt)), (ra 18, .inl (kI, 12, .inl q_waysTo)), (m0, .inr (11, oX11 ra (upd x0 0 0))), (ra 2, .inl (kI, 8, .inl q_told))] H := hP
    have hD : va_D A [(ra 8, .inl (kI, 40, .inl q_from)), (ra 9, .inl (kI, 40, .inl q_to)), (ra 10, .inl (kI, 6, .inl q_goal)), (ra 11, .inl (kI, 1019, .inl q_now)), (ra 14, .inl (kI, 12, .inl q_reach)), (ra 17, .inl (kZ, 168, .inl q_isAt)), (ra 18, .inl (kI, 12, .inl q_waysTo)), (m0, .inr (11, oX11 ra (upd x0 0 0))), (ra 2, .inl (kI, 8, .inl q_told))] := hD
    refine W.widen (k := 0) (n := 0) (Nat.le_of_ble_eq_true rfl) (Nat.le_of_ble_eq_true rfl) ?_
    refine lv_if_ne (tgt := 28) hx hb dX11_truth_19 (by decide) (fun c27 => ?_) (fun c27 => ?_)
    · have b28 : iv 1 1 r25 := iv_neLo c27 w26.1 (iv_k (by decide) (by decide) : iv 0 0 0) (by decide) (by decide)
      have hr29 := (w26.2).resolve_left (iv_ne b28 (iv_k (by decide) (by decide) : iv 0 0 0) (by decide))
      have b30 : iv 0 3 p1 := iv_cap (in_iv hr29 (iv_k (by decide) (by decide) : iv 0 0 0) (iv_k (by decide) (by decide) : iv 3 3 3)) (iv_t p1) (by decide) (by decide)
      refine lv_iload_n hx hb dX11_truth_28 rfl (lv_at hl 2 rfl) ?_
      refine lv_if_ne (tgt := 38) hx hb dX11_truth_29 (by decide) (fun c31 => ?_) (fun c31 => ?_)
      · have b32 : iv 1 3 p1 := iv_neLo c31 b30 (iv_k (by decide) (by decide) : iv 0 0 0) (by decide) (by decide)
        refine lv_iload_n hx hb dX11_truth_38 rfl (lv_at hl 2 rfl) ?_
        refine lv_iconst (v := 3) hx hb dX11_truth_39 (by decide) ?_
        refine lv_icmp_ge (tgt := 59) hx hb dX11_truth_40 (by decide) (fun c33 => ?_) (fun c33 => ?_)
        · have b34 : iv 3 3 p1 := iv_leR c33 (iv_k (by decide) (by decide) : iv 3 3 3) b32 (by decide) (by decide)
          refine lv_iconst (v := 0) hx hb dX11_truth_59 (by decide) ?_
          refine lv_istore_n (lv' := [(3, .int 0), (0, .ref m0), (1, .int p0), (2, .int p1)]) hx hb dX11_truth_60 rfl hl (by decide) rfl (fun ls hl => ?_)
          refine lv_iconst (v := 1) hx hb dX11_truth_61 (by decide) ?_
          refine lv_istore (lv' := [(4, .int 1), (3, .int 0), (0, .ref m0), (1, .int p0), (2, .int p1)]) hx hb dX11_truth_62 hl (by decide) rfl (fun ls hl => ?_)
          exact hJ64 _ (upd x0 0 0) q_isAt 0 1 _ _ _ (Nat.lt_succ_self _) ((fI_u hX (k := 0) ((iv_w (iv_k (by decide) (by decide) : iv 0 0 0) (by decide) (by decide))))) (b24) (b34) ((iv_w (iv_k (by decide) (by decide) : iv 1 1 1) (by decide) (by decide))) ((iv_k (by decide) (by decide) : iv 0 0 0)) (hP.sub [7, 8, 0, 1, 2, 3, 4, 5, 6] rfl) (hD.sub [7, 8, 0, 1, 2, 3, 4, 5, 6] (by decide +kernel) rfl) hS (lv_sub hl [2, 3, 4, 1, 0] rfl)
        · have b35 : iv 1 2 p1 := iv_ltL (Int32.not_le.mp c33) b32 (iv_k (by decide) (by decide) : iv 3 3 3) (by decide) (by decide)
          refine lv_aload_n hx hb dX11_truth_43 rfl (lv_at hl 0 rfl) ?_
          refine lv_iload_n hx hb dX11_truth_44 rfl (lv_at hl 1 rfl) ?_
          refine lv_iload_n hx hb dX11_truth_45 rfl (lv_at hl 2 rfl) ?_
          refine lv_iconst (v := 1) hx hb dX11_truth_46 (by decide) ?_
          refine lv_icmp_ne (tgt := 54) hx hb dX11_truth_47 (by decide) (fun c36 => ?_) (fun c36 => ?_)
          · have b37 : iv 2 2 p1 := iv_neLo c36 b35 (iv_k (by decide) (by decide) : iv 1 1 1) (by decide) (by decide)
            refine lv_iconst (v := 0) hx hb dX11_truth_54 (by decide) ?_
            exact hJ55 (upd x0 0 0) 0 _ _ _ ((fI_u hX (k := 0) ((iv_w (iv_k (by decide) (by decide) : iv 0 0 0) (by decide) (by decide))))) (b24) ((iv_w b37 (by decide) (by decide))) ((iv_w (iv_k (by decide) (by decide) : iv 0 0 0) (by decide) (by decide))) ((iv_k (by decide) (by decide) : iv 0 0 0)) (hP.sub [7, 8, 0, 1, 2, 3, 4, 5, 6] rfl) (hD.sub [7, 8, 0, 1, 2, 3, 4, 5, 6] (by decide +kernel) rfl) hS (lv_sub hl [0, 1, 2] rfl)
          · have b38 : iv 1 1 p1 := iv_eqL c36 (iv_k (by decide) (by decide) : iv 1 1 1)
            refine lv_iconst (v := 1) hx hb dX11_truth_50 (by decide) ?_
            refine lv_goto (tgt := 55) hx hb dX11_truth_51 (by decide) ?_
            exact hJ55 (upd x0 0 0) 1 _ _ _ ((fI_u hX (k := 0) ((iv_w (iv_k (by decide) (by decide) : iv 0 0 0) (by decide) (by decide))))) (b24) ((iv_w b38 (by decide) (by decide))) ((iv_w (iv_k (by decide) (by decide) : iv 1 1 1) (by decide) (by decide))) ((iv_k (by decide) (by decide) : iv 0 0 0)) (hP.sub [7, 8, 0, 1, 2, 3, 4, 5, 6] rfl) (hD.sub [7, 8, 0, 1, 2, 3, 4, 5, 6] (by decide +kernel) rfl) hS (lv_sub hl [0, 1, 2] rfl)
      · have b39 : iv 0 0 p1 := iv_eqL c31 (iv_k (by decide) (by decide) : iv 0 0 0)
        refine lv_aload_n hx hb dX11_truth_32 rfl (lv_at hl 0 rfl) ?_
        refine lv_iload_n hx hb dX11_truth_33 rfl (lv_at hl 1 rfl) ?_
        have hPc := hP.sub (ws' := [(m0, .inr (11, oX11 ra (upd x0 0 0))), (ra 2, .inl (kI, 8, .inl q_told)), (ra 8, .inl (kI, 40, .inl q_from)), (ra 9, .inl (kI, 40, .inl q_to)), (ra 10, .inl (kI, 6, .inl q_goal)), (ra 18, .inl (kI, 12, .inl q_waysTo))]) [7, 8, 0, 1, 2, 6] rfl
        have hDc := hD.sub (ws' := [(m0, .inr (11, oX11 ra (upd x0 0 0))), (ra 2, .inl (kI, 8, .inl q_told)), (ra 8, .inl (kI, 40, .inl q_from)), (ra 9, .inl (kI, 40, .inl q_to)), (ra 10, .inl (kI, 6, .inl q_goal)), (ra 18, .inl (kI, 12, .inl q_waysTo))]) [7, 8, 0, 1, 2, 6] (by decide +kernel) rfl
        have hFc := va_free (wc := [(m0, .inr (11, oX11 ra (upd x0 0 0))), (ra 2, .inl (kI, 8, .inl q_told)), (ra 8, .inl (kI, 40, .inl q_from)), (ra 9, .inl (kI, 40, .inl q_to)), (ra 10, .inl (kI, 6, .inl q_goal)), (ra 18, .inl (kI, 12, .inl q_waysTo))]) hD hS hA [7, 8, 0, 1, 2, 6] rfl
        refine va_calli (va_runV (As := [.int p0]) (rest := []) ⟨hx, hb, hml, hown, hts⟩ (s11_ways l dC dI kB kI kJ kZ kC kS H.size m0 ra (upd x0 0 0) q_told q_from q_to q_goal q_waysTo p0 ((fI_u hX (k := 0) ((iv_w (iv_k (by decide) (by decide) : iv 0 0 0) (by decide) (by decide))))) (hq_told) (hq_from) (hq_to) (hq_goal) (b24)) (cwV 1 hts gX11_truth_X11_ways rfl rfl rfl (by decide +kernel) ⟨Nat.le_of_ble_eq_true rfl, Nat.le_of_ble_eq_true rfl⟩) ⟨fun a U g mk q => by obtain ⟨q0, q1, qP, qE, qD⟩ := q; exact ⟨q0, q1, qP, kE_call qE, qD⟩, va_recv hK hP (ci := 11) (q0 := 7) rfl rfl, fun U hU hW => ⟨rfl, by rw [hU], by rw [hU]; exact hPc, kE_warm hW hE, hDc.weaken (fun _ _ _ _ => trivial)⟩⟩ rfl rfl hl.1 rfl (lv_room (Nat.le_of_ble_eq_true rfl)) dX11_truth_34 ⟨Nat.le_of_ble_eq_true rfl, Nat.le_of_ble_eq_true rfl⟩) hS (fun q _ h => hFc q h) hFc (fun r40 u t H1 locs ht hvm w41 hB hz1 hk1 hS => ?_)
        obtain ⟨f42, hP1, hD1⟩ := hB
        rw [ht] at hP1
        try dsimp only at w41
        obtain ⟨hP, hD⟩ := va_join (wr := [(ra 11, .inl (kI, 1019, .inl q_now)), (ra 14, .inl (kI, 12, .inl q_reach)), (ra 17, .inl (kZ, 168, .inl q_isAt))]) (w1 := [(m0, .inr (11, oX11 ra (upd x0 0 0))), (ra 2, .inl (kI, 8, .inl q_told)), (ra 8, .inl (kI, 40, .inl q_from)), (ra 9, .inl (kI, 40, .inl q_to)), (ra 10, .inl (kI, 6, .inl q_goal)), (ra 18, .inl (kI, 12, .inl f42))]) hP hD [7, 8, 0, 1, 2, 6] [3, 4, 5] rfl rfl (by decide +kernel) (by decide +kernel) hk1 hFc hP1 hD1
        generalize H1 = H at hP hS ⊢
        have hP : va_P (dC, dI) vwCl [(ra 11, .inl (kI, 1019, .inl q_now)), (ra 14, .inl (kI, 12, .inl q_reach)), (ra 17, .inl (kZ, 168, .inl q_isAt)), (m0, .inr (11, oX11 ra (upd x0 0 0))), (ra 2, .inl (kI, 8, .inl q_told)), (ra 8, .inl (kI, 40, .inl q_from)), (ra 9, .inl (kI, 40, .inl q_to)), (ra 10, .inl (kI, 6, .inl q_goal)), (ra 18, .inl (kI, 12, .inl f42))] H := hP
        have hD : va_D A [(ra 11, .inl (kI, 1019, .inl q_now)), (ra 14, .inl (kI, 12, .inl q_reach)), (ra 17, .inl (kZ, 168, .inl q_isAt)), (m0, .inr (11, oX11 ra (upd x0 0 0))), (ra 2, .inl (kI, 8, .inl q_told)), (ra 8, .inl (kI, 40, .inl q_from)), (ra 9, .inl (kI, 40, .inl q_to)), (ra 10, .inl (kI, 6, .inl q_goal)), (ra 18, .inl (kI, 12, .inl f42))] := hD
        refine W.widen (k := 0) (n := 0) (Nat.le_of_ble_eq_true rfl) (Nat.le_of_ble_eq_true rfl) ?_
        have hP9 := hP.sub (ws' := [(m0, .inr (11, oX11 ra (upd x0 0 0))), (ra 2, .inl (kI, 8, .inl q_told)), (ra 8, .inl (kI, 40, .inl q_from)), (ra 9, .inl (kI, 40, .inl q_to)), (ra 10, .inl (kI, 6, .inl q_goal)), (ra 11, .inl (kI, 1019, .inl q_now)), (ra 14, .inl (kI, 12, .inl q_reach)), (ra 17, .inl (kZ, 168, .inl q_isAt)), (ra 18, .inl (kI, 12, .inl f42))]) [3, 4, 5, 6, 7, 0, 1, 2, 8] rfl
        have hD9 := hD.sub (ws' := [(m0, .inr (11, oX11 ra (upd x0 0 0))), (ra 2, .inl (kI, 8, .inl q_told)), (ra 8, .inl (kI, 40, .inl q_from)), (ra 9, .inl (kI, 40, .inl q_to)), (ra 10, .inl (kI, 6, .inl q_goal)), (ra 11, .inl (kI, 1019, .inl q_now)), (ra 14, .inl (kI, 12, .inl q_reach)), (ra 17, .inl (kZ, 168, .inl q_isAt)), (ra 18, .inl (kI, 12, .inl f42))]) [3, 4, 5, 6, 7, 0, 1, 2, 8] (by decide +kernel) rfl
        exact W.iret (v := r40) hx hb hr (fun t ht hW => ⟨⟨r40, (), rfl, trivial, upd x0 0 0, q_isAt, f42, (fI_u hX (k := 0) ((iv_w (iv_k (by decide) (by decide) : iv 0 0 0) (by decide) (by decide)))), by rw [ht]; exact hP9, hD9⟩, hS.F ht⟩) hS.2.2 dX11_truth_37
    · have b43 : iv 0 0 r25 := iv_eqL c27 (iv_k (by decide) (by decide) : iv 0 0 0)
      exact hJ22 (upd x0 0 0) _ _ _ ((fI_u hX (k := 0) ((iv_w (iv_k (by decide) (by decide) : iv 0 0 0) (by decide) (by decide))))) ((iv_k (by decide) (by decide) : iv 0 0 0)) (hP.sub [7, 8, 0, 1, 2, 3, 4, 5, 6] rfl) (hD.sub [7, 8, 0, 1, 2, 3, 4, 5, 6] (by decide +kernel) rfl) hS (lv_sub hl [0, 1, 2] rfl)
def rm_s11_same : Room := { frames := 2, cells := 0, slots := 0, locals := 43 }
set_option maxHeartbeats 4000000 in
set_option maxRecDepth 100000 in
theorem s11_same (l : Launch) (dC : Nat → ClassId) (dI : Nat → Nat → Nat) (kB kI kJ kZ kC kS : ClassId) (sz : Nat) (m0 : Nat) (ra : Nat → Nat) (x0 : Nat → Int32) (q_told : Nat → Int32) (q_to : Nat → Int32) (p0 : Int32) (p1 : Int32) (hX : fI lX11 hX11 x0) (hq_told : fI lTold hTold q_told) (hq_to : fI (fun _ => 0) (fun _ => 11) q_to) : Met l yX11_same wsX11_same rm_s11_same (va_Pc [.ref m0, .int p0, .int p1] (fun U => U.heap.size = sz ∧ va_P (dC, dI) vwCl [(m0, .inr (11, oX11 ra x0)), (ra 2, .inl (kI, 8, .inl q_told)), (ra 9, .inl (kI, 40, .inl q_to))] U.heap ∧ kE dC dI kB kI kJ kZ kC kS U ∧ va_D (fun _ => True) [(m0, .inr (11, oX11 ra x0)), (ra 2, .inl (kI, 8, .inl q_told)), (ra 9, .inl (kI, 40, .inl q_to))])) (va_Qi (fun (r : Int32) (_ : Unit) => iv 0 1 r) (fun _ t => ∃ (x0' : Nat → Int32), fI lX11 hX11 x0' ∧ va_P (dC, dI) vwCl [(m0, .inr (11, oX11 ra x0')), (ra 2, .inl (kI, 8, .inl q_told)), (ra 9, .inl (kI, 40, .inl q_to))] t.heap ∧ va_D (va_A [(m0, .inr (11, oX11 ra x0)), (ra 2, .inl (kI, 8, .inl q_told)), (ra 9, .inl (kI, 40, .inl q_to))] sz) [(m0, .inr (11, oX11 ra x0')), (ra 2, .inl (kI, 8, .inl q_told)), (ra 9, .inl (kI, 40, .inl q_to))]) (va_A [(m0, .inr (11, oX11 ra x0)), (ra 2, .inl (kI, 8, .inl q_told)), (ra 9, .inl (kI, 40, .inl q_to))] sz)) 0 0 (va_A [(m0, .inr (11, oX11 ra x0)), (ra 2, .inl (kI, 8, .inl q_told)), (ra 9, .inl (kI, 40, .inl q_to))] sz) := by
  refine Met.ofW (cc := cX11_same) (maxL := 3) (ret := (some .int)) (by decide) rfl ?_
  intro p e s m args0 below meth c s₁ B hml hv
  obtain ⟨hargs, hsz, hP, hE, hD0⟩ := hv
  have hx := B.exec
  have hb := B.bytes
  have hr := B.returns
  have hts := atoms_spec (ws := wsX11_same) B.pre
  have hown : s.vm.findClass RX11 = some m.cls := findClass_of_methodNamed B.named
  have hlocks := B.notSynchronized
  have hK := hE.1
  have hin11 : ∀ w ∈ wsX110, w ∈ wsX11_same := fun _ h9 => List.mem_cons_of_mem _ (List.mem_append_right _ h9)
  have hw_0 := hts (.fieldLink RX11 142 "PathProberModel" "code" "I") (List.mem_of_getElem? (i := 1) (by decide +kernel))
  subst hsz
  have hD := hD0.self (sz := s.heap.size)
  generalize hAe : va_A [(m0, .inr (11, oX11 ra x0)), (ra 2, .inl (kI, 8, .inl q_told)), (ra 9, .inl (kI, 40, .inl q_to))] s.heap.size = A at hD ⊢
  have hA : ∀ q : Nat, s.heap.size ≤ q → A q := fun q h => by rw [← hAe]; exact Or.inr h
  have hS : va_S A s.heap s.heap [] := va_S.rf
  have hP : va_P (dC, dI) vwCl [(m0, .inr (11, oX11 ra x0)), (ra 2, .inl (kI, 8, .inl q_told)), (ra 9, .inl (kI, 40, .inl q_to))] s.heap := hP
  have hl := lv_entry ([.ref m0, .int p0, .int p1]) (n := 3) (Nat.le_of_ble_eq_true rfl)
  have hla : entryFrame m args0 3 = entryFrame m ([.ref m0, .int p0, .int p1] : List Value).toArray 3 := by rw [hargs]
  rw [hla, lg_entry_eq]
  generalize (lg_sl ([.ref m0, .int p0, .int p1]) ++ List.replicate (3 - (lg_sl ([.ref m0, .int p0, .int p1])).length) Slot.unset).toArray = ls at hl ⊢
  have hl : lv_has ls 3 [(0, .ref m0), (1, .int p0), (2, .int p1)] := hl
  have hJ42 : ∀ (y42_0 : Nat → Int32) (H : Heap) (locs : List Loc) (ls : Array Slot), fI lX11 hX11 y42_0 → iv 0 0 (y42_0 0) → va_P (dC, dI) vwCl [(m0, .inr (11, oX11 ra y42_0)), (ra 2, .inl (kI, 8, .inl q_told)), (ra 9, .inl (kI, 40, .inl q_to))] H → va_D A [(m0, .inr (11, oX11 ra y42_0)), (ra 2, .inl (kI, 8, .inl q_told)), (ra 9, .inl (kI, 40, .inl q_to))] → va_S A s.heap H locs → lv_has ls 3 [(0, .ref m0), (1, .int p0), (2, .int p1)] → W p l e (headSpec wsX11_same rm_s11_same).room s m args0 below meth c H locs (0) (0) (MQ below (va_Qi (fun (r : Int32) (_ : Unit) => iv 0 1 r) (fun _ t => ∃ (x0' : Nat → Int32), fI lX11 hX11 x0' ∧ va_P (dC, dI) vwCl [(m0, .inr (11, oX11 ra x0')), (ra 2, .inl (kI, 8, .inl q_told)), (ra 9, .inl (kI, 40, .inl q_to))] t.heap ∧ va_D A [(m0, .inr (11, oX11 ra x0')), (ra 2, .inl (kI, 8, .inl q_told)), (ra 9, .inl (kI, 40, .inl q_to))]) A) args0 s 0 0 A) (F0 m 42 ls []) := by
    intro y42_0 H locs ls hI42_0 h42_2 hP hD hS hl
    refine lv_aload_n hx hb dX11_same_42 rfl (lv_at hl 0 rfl) ?_
    refine lv_iconst (v := 1) hx hb dX11_same_43 (by decide) ?_
    have hPc := hP.sub (ws' := [(m0, .inr (11, oX11 ra y42_0))]) [0] rfl
    have hDc := hD.sub (ws' := [(m0, .inr (11, oX11 ra y42_0))]) [0] (by decide) rfl
    have hFc := va_free (wc := [(m0, .inr (11, oX11 ra y42_0))]) hD hS hA [0] rfl
    refine va_calli (va_runV (As := [.int 1]) (rest := []) ⟨hx, hb, hml, hown, hts⟩ (s11_fail l dC dI kB kI kJ kZ kC kS H.size m0 ra y42_0 1 (hI42_0)) (cwV 1 hts gX11_same_X11_fail rfl rfl rfl (by decide +kernel) ⟨Nat.le_of_ble_eq_true rfl, Nat.le_of_ble_eq_true rfl⟩) ⟨fun a U g mk q => by obtain ⟨q0, q1, qP, qE, qD⟩ := q; exact ⟨q0, q1, qP, kE_call qE, qD⟩, va_recv hK hP (ci := 11) (q0 := 0) rfl rfl, fun U hU hW => ⟨rfl, by rw [hU], by rw [hU]; exact hPc, kE_warm hW hE, hDc.weaken (fun _ _ _ _ => trivial)⟩⟩ rfl rfl hl.1 rfl (lv_room (Nat.le_of_ble_eq_true rfl)) dX11_same_44 ⟨Nat.le_of_ble_eq_true rfl, Nat.le_of_ble_eq_true rfl⟩) hS (fun q _ h => hFc q h) hFc (fun r1 u t H1 locs ht hvm w2 hB hz1 hk1 hS => ?_)
    obtain ⟨y3, hq4, hq5, hP1, hD1⟩ := hB
    rw [ht] at hP1
    try dsimp only at w2
    obtain ⟨hP, hD⟩ := va_join (wr := [(ra 2, .inl (kI, 8, .inl q_told)), (ra 9, .inl (kI, 40, .inl q_to))]) (w1 := [(m0, .inr (11, oX11 ra y3))]) hP hD [0] [1, 2] rfl rfl (by decide) (by decide) hk1 hFc hP1 hD1
    generalize H1 = H at hP hS ⊢
    have hP : va_P (dC, dI) vwCl [(ra 2, .inl (kI, 8, .inl q_told)), (ra 9, .inl (kI, 40, .inl q_to)), (m0, .inr (11, oX11 ra y3))] H := hP
    have hD : va_D A [(ra 2, .inl (kI, 8, .inl q_told)), (ra 9, .inl (kI, 40, .inl q_to)), (m0, .inr (11, oX11 ra y3))] := hD
    refine W.widen (k := 0) (n := 0) (Nat.le_of_ble_eq_true rfl) (Nat.le_of_ble_eq_true rfl) ?_
    obtain rfl : r1 = 0 := iv_one w2 (by decide)
    have hP9 := hP.sub (ws' := [(m0, .inr (11, oX11 ra y3)), (ra 2, .inl (kI, 8, .inl q_told)), (ra 9, .inl (kI, 40, .inl q_to))]) [2, 0, 1] rfl
    have hD9 := hD.sub (ws' := [(m0, .inr (11, oX11 ra y3)), (ra 2, .inl (kI, 8, .inl q_told)), (ra 9, .inl (kI, 40, .inl q_to))]) [2, 0, 1] (by decide) rfl
    exact W.iret (v := 0) hx hb hr (fun t ht hW => ⟨⟨0, (), rfl, (iv_w (iv_k (by decide) (by decide) : iv 0 0 0) (by decide) (by decide)), y3, hq4, by rw [ht]; exact hP9, hD9⟩, hS.F ht⟩) hS.2.2 dX11_same_47
  refine lv_aload_n hx hb dX11_same_0 rfl (lv_at hl 0 rfl) ?_
  refine lv_iconst (v := 0) hx hb dX11_same_1 (by decide) ?_
  refine va_put (D := (dC, dI)) (ci := 11) (v := .int 0) (ty := .int) (C := RX11) (T := TX11) (N := 61) hx hb hts hin11 tyX11 tyX11_ok nmX11 hown hK hP hD hS 0 rfl rfl 2 (by decide) hw_0 (fun _ h9 => h9) rfl (by decide +kernel) rfl rfl (Nat.le_of_ble_eq_true rfl) dX11_same_2 (fun H locs hP hD hS => ?_)
  have hP : va_P (dC, dI) vwCl [(m0, .inr (11, oX11 ra (upd x0 0 0))), (ra 2, .inl (kI, 8, .inl q_told)), (ra 9, .inl (kI, 40, .inl q_to))] H := hP
  have hD : va_D A [(m0, .inr (11, oX11 ra (upd x0 0 0))), (ra 2, .inl (kI, 8, .inl q_told)), (ra 9, .inl (kI, 40, .inl q_to))] := hD
  refine lv_aload_n hx hb dX11_same_5 rfl (lv_at hl 0 rfl) ?_
  refine lv_iload_n hx hb dX11_same_6 rfl (lv_at hl 1 rfl) ?_
  have hPc := hP.sub (ws' := [(m0, .inr (11, oX11 ra (upd x0 0 0))), (ra 2, .inl (kI, 8, .inl q_told))]) [0, 1] rfl
  have hDc := hD.sub (ws' := [(m0, .inr (11, oX11 ra (upd x0 0 0))), (ra 2, .inl (kI, 8, .inl q_told))]) [0, 1] (by decide) rfl
  have hFc := va_free (wc := [(m0, .inr (11, oX11 ra (upd x0 0 0))), (ra 2, .inl (kI, 8, .inl q_told))]) hD hS hA [0, 1] rfl
  refine va_calli (va_runV (As := [.int p0]) (rest := []) ⟨hx, hb, hml, hown, hts⟩ (s11_isAddress l dC dI kB kI kJ kZ kC kS H.size m0 ra (upd x0 0 0) q_told p0 ((fI_u hX (k := 0) ((iv_w (iv_k (by decide) (by decide) : iv 0 0 0) (by decide) (by decide))))) (hq_told)) (cwV 1 hts gX11_same_X11_isAddress rfl rfl rfl (by decide +kernel) ⟨Nat.le_of_ble_eq_true rfl, Nat.le_of_ble_eq_true rfl⟩) ⟨fun a U g mk q => by obtain ⟨q0, q1, qP, qE, qD⟩ := q; exact ⟨q0, q1, qP, kE_call qE, qD⟩, va_recv hK hP (ci := 11) (q0 := 0) rfl rfl, fun U hU hW => ⟨rfl, by rw [hU], by rw [hU]; exact hPc, kE_warm hW hE, hDc.weaken (fun _ _ _ _ => trivial)⟩⟩ rfl rfl hl.1 rfl (lv_room (Nat.le_of_ble_eq_true rfl)) dX11_same_7 ⟨Nat.le_of_ble_eq_true rfl, Nat.le_of_ble_eq_true rfl⟩) hS (fun q _ h => hFc q h) hFc (fun r6 u t H1 locs ht hvm w7 hB hz1 hk1 hS => ?_)
  obtain ⟨hP1, hD1⟩ := hB
  rw [ht] at hP1
  try dsimp only at w7
  obtain ⟨hP, hD⟩ := va_join (wr := [(ra 9, .inl (kI, 40, .inl q_to))]) (w1 := [(m0, .inr (11, oX11 ra (upd x0 0 0))), (ra 2, .inl (kI, 8, .inl q_told))]) hP hD [0, 1] [2] rfl rfl (by decide) (by decide) hk1 hFc hP1 hD1
  generalize H1 = H at hP hS ⊢
  have hP : va_P (dC, dI) vwCl [(ra 9, .inl (kI, 40, .inl q_to)), (m0, .inr (11, oX11 ra (upd x0 0 0))), (ra 2, .inl (kI, 8, .inl q_told))] H := hP
  have hD : va_D A [(ra 9, .inl (kI, 40, .inl q_to)), (m0, .inr (11, oX11 ra (upd x0 0 0))), (ra 2, .inl (kI, 8, .inl q_told))] := hD
  refine W.widen (k := 0) (n := 0) (Nat.le_of_ble_eq_true rfl) (Nat.le_of_ble_eq_true rfl) ?_
  refine lv_if_eq (tgt := 42) hx hb dX11_same_10 (by decide) (fun c8 => ?_) (fun c8 => ?_)
  · have b9 : iv 0 0 r6 := iv_eqL c8 (iv_k (by decide) (by decide) : iv 0 0 0)
    exact hJ42 (upd x0 0 0) _ _ _ ((fI_u hX (k := 0) ((iv_w (iv_k (by decide) (by decide) : iv 0 0 0) (by decide) (by decide))))) ((iv_k (by decide) (by decide) : iv 0 0 0)) (hP.sub [1, 2, 0] rfl) (hD.sub [1, 2, 0] (by decide) rfl) hS (lv_sub hl [0, 1, 2] rfl)
  · have b10 : iv 1 1 r6 := iv_neLo c8 w7.1 (iv_k (by decide) (by decide) : iv 0 0 0) (by decide) (by decide)
    have b11 : iv 0 20 p0 := (w7.2).resolve_left (iv_ne b10 (iv_k (by decide) (by decide) : iv 0 0 0) (by decide))
    refine lv_aload_n hx hb dX11_same_13 rfl (lv_at hl 0 rfl) ?_
    refine lv_iload_n hx hb dX11_same_14 rfl (lv_at hl 2 rfl) ?_
    have hPc := hP.sub (ws' := [(m0, .inr (11, oX11 ra (upd x0 0 0))), (ra 2, .inl (kI, 8, .inl q_told))]) [1, 2] rfl
    have hDc := hD.sub (ws' := [(m0, .inr (11, oX11 ra (upd x0 0 0))), (ra 2, .inl (kI, 8, .inl q_told))]) [1, 2] (by decide) rfl
    have hFc := va_free (wc := [(m0, .inr (11, oX11 ra (upd x0 0 0))), (ra 2, .inl (kI, 8, .inl q_told))]) hD hS hA [1, 2] rfl
    refine va_calli (va_runV (As := [.int p1]) (rest := []) ⟨hx, hb, hml, hown, hts⟩ (s11_isAddress l dC dI kB kI kJ kZ kC kS H.size m0 ra (upd x0 0 0) q_told p1 ((fI_u hX (k := 0) ((iv_w (iv_k (by decide) (by decide) : iv 0 0 0) (by decide) (by decide))))) (hq_told)) (cwV 1 hts gX11_same_X11_isAddress rfl rfl rfl (by decide +kernel) ⟨Nat.le_of_ble_eq_true rfl, Nat.le_of_ble_eq_true rfl⟩) ⟨fun a U g mk q => by obtain ⟨q0, q1, qP, qE, qD⟩ := q; exact ⟨q0, q1, qP, kE_call qE, qD⟩, va_recv hK hP (ci := 11) (q0 := 1) rfl rfl, fun U hU hW => ⟨rfl, by rw [hU], by rw [hU]; exact hPc, kE_warm hW hE, hDc.weaken (fun _ _ _ _ => trivial)⟩⟩ rfl rfl hl.1 rfl (lv_room (Nat.le_of_ble_eq_true rfl)) dX11_same_15 ⟨Nat.le_of_ble_eq_true rfl, Nat.le_of_ble_eq_true rfl⟩) hS (fun q _ h => hFc q h) hFc (fun r12 u t H1 locs ht hvm w13 hB hz1 hk1 hS => ?_)
    obtain ⟨hP1, hD1⟩ := hB
    rw [ht] at hP1
    try dsimp only at w13
    obtain ⟨hP, hD⟩ := va_join (wr := [(ra 9, .inl (kI, 40, .inl q_to))]) (w1 := [(m0, .inr (11, oX11 ra (upd x0 0 0))), (ra 2, .inl (kI, 8, .inl q_told))]) hP hD [1, 2] [0] rfl rfl (by decide) (by decide) hk1 hFc hP1 hD1
    generalize H1 = H at hP hS ⊢
    have hP : va_P (dC, dI) vwCl [(ra 9, .inl (kI, 40, .inl q_to)), (m0, .inr (11, oX11 ra (upd x0 0 0))), (ra 2, .inl (kI, 8, .inl q_told))] H := hP
    have hD : va_D A [(ra 9, .inl (kI, 40, .inl q_to)), (m0, .inr (11, oX11 ra (upd x0 0 0))), (ra 2, .inl (kI, 8, .inl q_told))] := hD
    refine W.widen (k := 0) (n := 0) (Nat.le_of_ble_eq_true rfl) (Nat.le_of_ble_eq_true rfl) ?_
    refine lv_if_eq (tgt := 42) hx hb dX11_same_18 (by decide) (fun c14 => ?_) (fun c14 => ?_)
    · have b15 : iv 0 0 r12 := iv_eqL c14 (iv_k (by decide) (by decide) : iv 0 0 0)
      exact hJ42 (upd x0 0 0) _ _ _ ((fI_u hX (k := 0) ((iv_w (iv_k (by decide) (by decide) : iv 0 0 0) (by decide) (by decide))))) ((iv_k (by decide) (by decide) : iv 0 0 0)) (hP.sub [1, 2, 0] rfl) (hD.sub [1, 2, 0] (by decide) rfl) hS (lv_sub hl [0, 1, 2] rfl)
    · have b16 : iv 1 1 r12 := iv_neLo c14 w13.1 (iv_k (by decide) (by decide) : iv 0 0 0) (by decide) (by decide)
      have b17 : iv 0 20 p1 := (w13.2).resolve_left (iv_ne b16 (iv_k (by decide) (by decide) : iv 0 0 0) (by decide))
      refine lv_aload_n hx hb dX11_same_21 rfl (lv_at hl 0 rfl) ?_
      refine lv_iload_n hx hb dX11_same_22 rfl (lv_at hl 1 rfl) ?_
      have hPc := hP.sub (ws' := [(m0, .inr (11, oX11 ra (upd x0 0 0))), (ra 9, .inl (kI, 40, .inl q_to))]) [1, 0] rfl
      have hDc := hD.sub (ws' := [(m0, .inr (11, oX11 ra (upd x0 0 0))), (ra 9, .inl (kI, 40, .inl q_to))]) [1, 0] (by decide) rfl
      have hFc := va_free (wc := [(m0, .inr (11, oX11 ra (upd x0 0 0))), (ra 9, .inl (kI, 40, .inl q_to))]) hD hS hA [1, 0] rfl
      refine va_calli (va_runV (As := [.int p0]) (rest := []) ⟨hx, hb, hml, hown, hts⟩ (s11_routerOf l dC dI kB kI kJ kZ kC kS H.size m0 ra (upd x0 0 0) q_to p0 ((fI_u hX (k := 0) ((iv_w (iv_k (by decide) (by decide) : iv 0 0 0) (by decide) (by decide))))) (hq_to) ((iv_w b11 (by decide) (by decide)))) (cwV 1 hts gX11_same_X11_routerOf rfl rfl rfl (by decide +kernel) ⟨Nat.le_of_ble_eq_true rfl, Nat.le_of_ble_eq_true rfl⟩) ⟨fun a U g mk q => by obtain ⟨q0, q1, qP, qE, qD⟩ := q; exact ⟨q0, q1, qP, kE_call qE, qD⟩, va_recv hK hP (ci := 11) (q0 := 1) rfl rfl, fun U hU hW => ⟨rfl, by rw [hU], by rw [hU]; exact hPc, kE_warm hW hE, hDc.weaken (fun _ _ _ _ => trivial)⟩⟩ rfl rfl hl.1 rfl (lv_room (Nat.le_of_ble_eq_true rfl)) dX11_same_23 ⟨Nat.le_of_ble_eq_true rfl, Nat.le_of_ble_eq_true rfl⟩) hS (fun q _ h => hFc q h) hFc (fun r18 u t H1 locs ht hvm w19 hB hz1 hk1 hS => ?_)
      obtain ⟨hP1, hD1⟩ := hB
      rw [ht] at hP1
      try dsimp only at w19
      obtain ⟨hP, hD⟩ := va_join (wr := [(ra 2, .inl (kI, 8, .inl q_told))]) (w1 := [(m0, .inr (11, oX11 ra (upd x0 0 0))), (ra 9, .inl (kI, 40, .inl q_to))]) hP hD [1, 0] [2] rfl rfl (by decide) (by decide) hk1 hFc hP1 hD1
      generalize H1 = H at hP hS ⊢
      have hP : va_P (dC, dI) vwCl [(ra 2, .inl (kI, 8, .inl q_told)), (m0, .inr (11, oX11 ra (upd x0 0 0))), (ra 9, .inl (kI, 40, .inl q_to))] H := hP
      have hD : va_D A [(ra 2, .inl (kI, 8, .inl q_told)), (m0, .inr (11, oX11 ra (upd x0 0 0))), (ra 9, .inl (kI, 40, .inl q_to))] := hD
      refine W.widen (k := 0) (n := 0) (Nat.le_of_ble_eq_true rfl) (Nat.le_of_ble_eq_true rfl) ?_
      refine lv_aload_n hx hb dX11_same_26 rfl (lv_at hl 0 rfl) ?_
      refine lv_iload_n hx hb dX11_same_27 rfl (lv_at hl 2 rfl) ?_
      have hPc := hP.sub (ws' := [(m0, .inr (11, oX11 ra (upd x0 0 0))), (ra 9, .inl (kI, 40, .inl q_to))]) [1, 2] rfl
      have hDc := hD.sub (ws' := [(m0, .inr (11, oX11 ra (upd x0 0 0))), (ra 9, .inl (kI, 40, .inl q_to))]) [1, 2] (by decide) rfl
      have hFc := va_free (wc := [(m0, .inr (11, oX11 ra (upd x0 0 0))), (ra 9, .inl (kI, 40, .inl q_to))]) hD hS hA [1, 2] rfl
      refine va_calli (va_runV (As := [.int p1]) (rest := [.int r18]) ⟨hx, hb, hml, hown, hts⟩ (s11_routerOf l dC dI kB kI kJ kZ kC kS H.size m0 ra (upd x0 0 0) q_to p1 ((fI_u hX (k := 0) ((iv_w (iv_k (by decide) (by decide) : iv 0 0 0) (by decide) (by decide))))) (hq_to) ((iv_w b17 (by decide) (by decide)))) (cwV 1 hts gX11_same_X11_routerOf rfl rfl rfl (by decide +kernel) ⟨Nat.le_of_ble_eq_true rfl, Nat.le_of_ble_eq_true rfl⟩) ⟨fun a U g mk q => by obtain ⟨q0, q1, qP, qE, qD⟩ := q; exact ⟨q0, q1, qP, kE_call qE, qD⟩, va_recv hK hP (ci := 11) (q0 := 1) rfl rfl, fun U hU hW => ⟨rfl, by rw [hU], by rw [hU]; exact hPc, kE_warm hW hE, hDc.weaken (fun _ _ _ _ => trivial)⟩⟩ rfl rfl hl.1 rfl (lv_room (Nat.le_of_ble_eq_true rfl)) dX11_same_28 ⟨Nat.le_of_ble_eq_true rfl, Nat.le_of_ble_eq_true rfl⟩) hS (fun q _ h => hFc q h) hFc (fun r20 u t H1 locs ht hvm w21 hB hz1 hk1 hS => ?_)
      obtain ⟨hP1, hD1⟩ := hB
      rw [ht] at hP1
      try dsimp only at w21
      obtain ⟨hP, hD⟩ := va_join (wr := [(ra 2, .inl (kI, 8, .inl q_told))]) (w1 := [(m0, .inr (11, oX11 ra (upd x0 0 0))), (ra 9, .inl (kI, 40, .inl q_to))]) hP hD [1, 2] [0] rfl rfl (by decide) (by decide) hk1 hFc hP1 hD1
      generalize H1 = H at hP hS ⊢
      have hP : va_P (dC, dI) vwCl [(ra 2, .inl (kI, 8, .inl q_told)), (m0, .inr (11, oX11 ra (upd x0 0 0))), (ra 9, .inl (kI, 40, .inl q_to))] H := hP
      have hD : va_D A [(ra 2, .inl (kI, 8, .inl q_told)), (m0, .inr (11, oX11 ra (upd x0 0 0))), (ra 9, .inl (kI, 40, .inl q_to))] := hD
      refine W.widen (k := 0) (n := 0) (Nat.le_of_ble_eq_true rfl) (Nat.le_of_ble_eq_true rfl) ?_
      refine lv_icmp_ne (tgt := 38) hx hb dX11_same_31 (by decide) (fun c22 => ?_) (fun c22 => ?_)
      · refine lv_iconst (v := 0) hx hb dX11_same_38 (by decide) ?_
        refine lv_goto (tgt := 47) hx hb dX11_same_39 (by decide) ?_
        have hP9 := hP.sub (ws' := [(m0, .inr (11, oX11 ra (upd x0 0 0))), (ra 2, .inl (kI, 8, .inl q_told)), (ra 9, .inl (kI, 40, .inl q_to))]) [1, 0, 2] rfl
        have hD9 := hD.sub (ws' := [(m0, .inr (11, oX11 ra (upd x0 0 0))), (ra 2, .inl (kI, 8, .inl q_told)), (ra 9, .inl (kI, 40, .inl q_to))]) [1, 0, 2] (by decide) rfl
        exact W.iret (v := 0) hx hb hr (fun t ht hW => ⟨⟨0, (), rfl, (iv_w (iv_k (by decide) (by decide) : iv 0 0 0) (by decide) (by decide)), upd x0 0 0, (fI_u hX (k := 0) ((iv_w (iv_k (by decide) (by decide) : iv 0 0 0) (by decide) (by decide)))), by rw [ht]; exact hP9, hD9⟩, hS.F ht⟩) hS.2.2 dX11_same_47
      · refine lv_iconst (v := 1) hx hb dX11_same_34 (by decide) ?_
        refine lv_goto (tgt := 47) hx hb dX11_same_35 (by decide) ?_
        have hP9 := hP.sub (ws' := [(m0, .inr (11, oX11 ra (upd x0 0 0))), (ra 2, .inl (kI, 8, .inl q_told)), (ra 9, .inl (kI, 40, .inl q_to))]) [1, 0, 2] rfl
        have hD9 := hD.sub (ws' := [(m0, .inr (11, oX11 ra (upd x0 0 0))), (ra 2, .inl (kI, 8, .inl q_told)), (ra 9, .inl (kI, 40, .inl q_to))]) [1, 0, 2] (by decide) rfl
        exact W.iret (v := 1) hx hb hr (fun t ht hW => ⟨⟨1, (), rfl, (iv_w (iv_k (by decide) (by decide) : iv 1 1 1) (by decide) (by decide)), upd x0 0 0, (fI_u hX (k := 0) ((iv_w (iv_k (by decide) (by decide) : iv 0 0 0) (by decide) (by decide)))), by rw [ht]; exact hP9, hD9⟩, hS.F ht⟩) hS.2.2 dX11_same_47
def rm_s11_port : Room := { frames := 4, cells := 0, slots := 0, locals := 102 }
set_option maxHeartbeats 4000000 in
set_option maxRecDepth 100000 in
theorem s11_port (l : Launch) (dC : Nat → ClassId) (dI : Nat → Nat → Nat) (kB kI kJ kZ kC kS : ClassId) (sz : Nat) (m0 : Nat) (ra : Nat → Nat) (x0 : Nat → Int32) (q_told : Nat → Int32) (q_kind : Nat → Int32) (q_salt : Nat → Int32) (q_from : Nat → Int32) (q_to : Nat → Int32) (q_goal : Nat → Int32) (q_now : Nat → Int32) (q_reach : Nat → Int32) (p0 : Int32) (p1 : Int32) (hX : fI lX11 hX11 x0) (hq_told : fI lTold hTold q_told) (hq_salt : fI (fun _ => 0) (fun _ => 15) q_salt) (hq_from : fI (fun _ => 0) (fun _ => 11) q_from) (hq_to : fI (fun _ => 0) (fun _ => 11) q_to) (hq_goal : fI (fun _ => 0) (fun _ => 11) q_goal) (hq_now : fI lNow hNow q_now) (hLT : ∀ j : Nat, (j : Int) < (q_told 1).toInt → (q_from j).toInt < (q_to j).toInt) : Met l yX11_port wsX11_port rm_s11_port (va_Pc [.ref m0, .int p0, .int p1] (fun U => U.heap.size = sz ∧ va_P (dC, dI) vwCl [(m0, .inr (11, oX11 ra x0)), (ra 2, .inl (kI, 8, .inl q_told)), (ra 3, .inl (kI, 24, .inl q_kind)), (ra 4, .inl (kI, 24, .inl q_salt)), (ra 8, .inl (kI, 40, .inl q_from)), (ra 9, .inl (kI, 40, .inl q_to)), (ra 10, .inl (kI, 6, .inl q_goal)), (ra 11, .inl (kI, 1019, .inl q_now)), (ra 14, .inl (kI, 12, .inl q_reach))] U.heap ∧ kE dC dI kB kI kJ kZ kC kS U ∧ va_D (fun _ => True) [(m0, .inr (11, oX11 ra x0)), (ra 2, .inl (kI, 8, .inl q_told)), (ra 3, .inl (kI, 24, .inl q_kind)), (ra 4, .inl (kI, 24, .inl q_salt)), (ra 8, .inl (kI, 40, .inl q_from)), (ra 9, .inl (kI, 40, .inl q_to)), (ra 10, .inl (kI, 6, .inl q_goal)), (ra 11, .inl (kI, 1019, .inl q_now)), (ra 14, .inl (kI, 12, .inl q_reach))])) (va_Qi (fun (r : Int32) (_ : Unit) => iv (-1) 31 r) (fun _ t => ∃ (x0' : Nat → Int32) (q_now' : Nat → Int32), fI lX11 hX11 x0' ∧ fI lNow hNow q_now' ∧ va_P (dC, dI) vwCl [(m0, .inr (11, oX11 ra x0')), (ra 2, .inl (kI, 8, .inl q_told)), (ra 3, .inl (kI, 24, .inl q_kind)), (ra 4, .inl (kI, 24, .inl q_salt)), (ra 8, .inl (kI, 40, .inl q_from)), (ra 9, .inl (kI, 40, .inl q_to)), (ra 10, .inl (kI, 6, .inl q_goal)), (ra 11, .inl (kI, 1019, .inl q_now')), (ra 14, .inl (kI, 12, .inl q_reach))] t.heap ∧ va_D (va_A [(m0, .inr (11, oX11 ra x0)), (ra 2, .inl (kI, 8, .inl q_told)), (ra 3, .inl (kI, 24, .inl q_kind)), (ra 4, .inl (kI, 24, .inl q_salt)), (ra 8, .inl (kI, 40, .inl q_from)), (ra 9, .inl (kI, 40, .inl q_to)), (ra 10, .inl (kI, 6, .inl q_goal)), (ra 11, .inl (kI, 1019, .inl q_now)), (ra 14, .inl (kI, 12, .inl q_reach))] sz) [(m0, .inr (11, oX11 ra x0')), (ra 2, .inl (kI, 8, .inl q_told)), (ra 3, .inl (kI, 24, .inl q_kind)), (ra 4, .inl (kI, 24, .inl q_salt)), (ra 8, .inl (kI, 40, .inl q_from)), (ra 9, .inl (kI, 40, .inl q_to)), (ra 10, .inl (kI, 6, .inl q_goal)), (ra 11, .inl (kI, 1019, .inl q_now')), (ra 14, .inl (kI, 12, .inl q_reach))]) (va_A [(m0, .inr (11, oX11 ra x0)), (ra 2, .inl (kI, 8, .inl q_told)), (ra 3, .inl (kI, 24, .inl q_kind)), (ra 4, .inl (kI, 24, .inl q_salt)), (ra 8, .inl (kI, 40, .inl q_from)), (ra 9, .inl (kI, 40, .inl q_to)), (ra 10, .inl (kI, 6, .inl q_goal)), (ra 11, .inl (kI, 1019, .inl q_now)), (ra 14, .inl (kI, 12, .inl q_reach))] sz)) 0 0 (va_A [(m0, .inr (11, oX11 ra x0)), (ra 2, .inl (kI, 8, .inl q_told)), (ra 3, .inl (kI, 24, .inl q_kind)), (ra 4, .inl (kI, 24, .inl q_salt)), (ra 8, .inl (kI, 40, .inl q_from)), (ra 9, .inl (kI, 40, .inl q_to)), (ra 10, .inl (kI, 6, .inl q_goal)), (ra 11, .inl (kI, 1019, .inl q_now)), (ra 14, .inl (kI, 12, .inl q_reach))] sz) := by
  refine Met.ofW (cc := cX11_port) (maxL := 4) (ret := (some .int)) (by decide) rfl ?_
  intro p e s m args0 below meth c s₁ B hml hv
  obtain ⟨hargs, hsz, hP, hE, hD0⟩ := hv
  have hx := B.exec
  have hb := B.bytes
  have hr := B.returns
  have hts := atoms_spec (ws := wsX11_port) B.pre
  have hown : s.vm.findClass RX11 = some m.cls := findClass_of_methodNamed B.named
  have hlocks := B.notSynchronized
  have hK := hE.1
  have hin11 : ∀ w ∈ wsX110, w ∈ wsX11_port := fun _ h9 => List.mem_cons_of_mem _ (List.mem_append_right _ h9)
  have hw_0 := hts (.fieldLink RX11 440 "PathProberModel" "wayLinks" "I") (List.mem_of_getElem? (i := 2) (by decide +kernel))
  have hw_1 := hts (.fieldLink RX11 142 "PathProberModel" "code" "I") (List.mem_of_getElem? (i := 1) (by decide +kernel))
  subst hsz
  have hD := hD0.self (sz := s.heap.size)
  generalize hAe : va_A [(m0, .inr (11, oX11 ra x0)), (ra 2, .inl (kI, 8, .inl q_told)), (ra 3, .inl (kI, 24, .inl q_kind)), (ra 4, .inl (kI, 24, .inl q_salt)), (ra 8, .inl (kI, 40, .inl q_from)), (ra 9, .inl (kI, 40, .inl q_to)), (ra 10, .inl (kI, 6, .inl q_goal)), (ra 11, .inl (kI, 1019, .inl q_now)), (ra 14, .inl (kI, 12, .inl q_reach))] s.heap.size = A at hD ⊢
  have hA : ∀ q : Nat, s.heap.size ≤ q → A q := fun q h => by rw [← hAe]; exact Or.inr h
  have hS : va_S A s.heap s.heap [] := va_S.rf
  have hP : va_P (dC, dI) vwCl [(m0, .inr (11, oX11 ra x0)), (ra 2, .inl (kI, 8, .inl q_told)), (ra 3, .inl (kI, 24, .inl q_kind)), (ra 4, .inl (kI, 24, .inl q_salt)), (ra 8, .inl (kI, 40, .inl q_from)), (ra 9, .inl (kI, 40, .inl q_to)), (ra 10, .inl (kI, 6, .inl q_goal)), (ra 11, .inl (kI, 1019, .inl q_now)), (ra 14, .inl (kI, 12, .inl q_reach))] s.heap := hP
  have hl := lv_entry ([.ref m0, .int p0, .int p1]) (n := 4) (Nat.le_of_ble_eq_true rfl)
  have hla : entryFrame m args0 4 = entryFrame m ([.ref m0, .int p0, .int p1] : List Value).toArray 4 := by rw [hargs]
  rw [hla, lg_entry_eq]
  generalize (lg_sl ([.ref m0, .int p0, .int p1]) ++ List.replicate (4 - (lg_sl ([.ref m0, .int p0, .int p1])).length) Slot.unset).toArray = ls at hl ⊢
  have hl : lv_has ls 4 [(0, .ref m0), (1, .int p0), (2, .int p1)] := hl
  have hJ27 : ∀ (y27_0 : Nat → Int32) (H : Heap) (locs : List Loc) (ls : Array Slot), fI lX11 hX11 y27_0 → iv 0 0 (y27_0 0) → va_P (dC, dI) vwCl [(m0, .inr (11, oX11 ra y27_0)), (ra 2, .inl (kI, 8, .inl q_told)), (ra 3, .inl (kI, 24, .inl q_kind)), (ra 4, .inl (kI, 24, .inl q_salt)), (ra 8, .inl (kI, 40, .inl q_from)), (ra 9, .inl (kI, 40, .inl q_to)), (ra 10, .inl (kI, 6, .inl q_goal)), (ra 11, .inl (kI, 1019, .inl q_now)), (ra 14, .inl (kI, 12, .inl q_reach))] H → va_D A [(m0, .inr (11, oX11 ra y27_0)), (ra 2, .inl (kI, 8, .inl q_told)), (ra 3, .inl (kI, 24, .inl q_kind)), (ra 4, .inl (kI, 24, .inl q_salt)), (ra 8, .inl (kI, 40, .inl q_from)), (ra 9, .inl (kI, 40, .inl q_to)), (ra 10, .inl (kI, 6, .inl q_goal)), (ra 11, .inl (kI, 1019, .inl q_now)), (ra 14, .inl (kI, 12, .inl q_reach))] → va_S A s.heap H locs → lv_has ls 4 [(0, .ref m0), (1, .int p0), (2, .int p1)] → W p l e (headSpec wsX11_port rm_s11_port).room s m args0 below meth c H locs (0) (0) (MQ below (va_Qi (fun (r : Int32) (_ : Unit) => iv (-1) 31 r) (fun _ t => ∃ (x0' : Nat → Int32) (q_now' : Nat → Int32), fI lX11 hX11 x0' ∧ fI lNow hNow q_now' ∧ va_P (dC, dI) vwCl [(m0, .inr (11, oX11 ra x0')), (ra 2, .inl (kI, 8, .inl q_told)), (ra 3, .inl (kI, 24, .inl q_kind)), (ra 4, .inl (kI, 24, .inl q_salt)), (ra 8, .inl (kI, 40, .inl q_from)), (ra 9, .inl (kI, 40, .inl q_to)), (ra 10, .inl (kI, 6, .inl q_goal)), (ra 11, .inl (kI, 1019, .inl q_now')), (ra 14, .inl (kI, 12, .inl q_reach))] t.heap ∧ va_D A [(m0, .inr (11, oX11 ra x0')), (ra 2, .inl (kI, 8, .inl q_told)), (ra 3, .inl (kI, 24, .inl q_kind)), (ra 4, .inl (kI, 24, .inl q_salt)), (ra 8, .inl (kI, 40, .inl q_from)), (ra 9, .inl (kI, 40, .inl q_to)), (ra 10, .inl (kI, 6, .inl q_goal)), (ra 11, .inl (kI, 1019, .inl q_now')), (ra 14, .inl (kI, 12, .inl q_reach))]) A) args0 s 0 0 A) (F0 m 27 ls []) := by
    intro y27_0 H locs ls hI27_0 h27_2 hP hD hS hl
    refine lv_aload_n hx hb dX11_port_27 rfl (lv_at hl 0 rfl) ?_
    refine lv_iconst (v := 1) hx hb dX11_port_28 (by decide) ?_
    have hPc := hP.sub (ws' := [(m0, .inr (11, oX11 ra y27_0))]) [0] rfl
    have hDc := hD.sub (ws' := [(m0, .inr (11, oX11 ra y27_0))]) [0] (by decide +kernel) rfl
    have hFc := va_free (wc := [(m0, .inr (11, oX11 ra y27_0))]) hD hS hA [0] rfl
    refine va_calli (va_runV (As := [.int 1]) (rest := []) ⟨hx, hb, hml, hown, hts⟩ (s11_fail l dC dI kB kI kJ kZ kC kS H.size m0 ra y27_0 1 (hI27_0)) (cwV 1 hts gX11_port_X11_fail rfl rfl rfl (by decide +kernel) ⟨Nat.le_of_ble_eq_true rfl, Nat.le_of_ble_eq_true rfl⟩) ⟨fun a U g mk q => by obtain ⟨q0, q1, qP, qE, qD⟩ := q; exact ⟨q0, q1, qP, kE_call qE, qD⟩, va_recv hK hP (ci := 11) (q0 := 0) rfl rfl, fun U hU hW => ⟨rfl, by rw [hU], by rw [hU]; exact hPc, kE_warm hW hE, hDc.weaken (fun _ _ _ _ => trivial)⟩⟩ rfl rfl hl.1 rfl (lv_room (Nat.le_of_ble_eq_true rfl)) dX11_port_29 ⟨Nat.le_of_ble_eq_true rfl, Nat.le_of_ble_eq_true rfl⟩) hS (fun q _ h => hFc q h) hFc (fun r1 u t H1 locs ht hvm w2 hB hz1 hk1 hS => ?_)
    obtain ⟨y3, hq4, hq5, hP1, hD1⟩ := hB
    rw [ht] at hP1
    try dsimp only at w2
    obtain ⟨hP, hD⟩ := va_join (wr := [(ra 2, .inl (kI, 8, .inl q_told)), (ra 3, .inl (kI, 24, .inl q_kind)), (ra 4, .inl (kI, 24, .inl q_salt)), (ra 8, .inl (kI, 40, .inl q_from)), (ra 9, .inl (kI, 40, .inl q_to)), (ra 10, .inl (kI, 6, .inl q_goal)), (ra 11, .inl (kI, 1019, .inl q_now)), (ra 14, .inl (kI, 12, .inl q_reach))]) (w1 := [(m0, .inr (11, oX11 ra y3))]) hP hD [0] [1, 2, 3, 4, 5, 6, 7, 8] rfl rfl (by decide +kernel) (by decide +kernel) hk1 hFc hP1 hD1
    generalize H1 = H at hP hS ⊢
    have hP : va_P (dC, dI) vwCl [(ra 2, .inl (kI, 8, .inl q_told)), (ra 3, .inl (kI, 24, .inl q_kind)), (ra 4, .inl (kI, 24, .inl q_salt)), (ra 8, .inl (kI, 40, .inl q_from)), (ra 9, .inl (kI, 40, .inl q_to)), (ra 10, .inl (kI, 6, .inl q_goal)), (ra 11, .inl (kI, 1019, .inl q_now)), (ra 14, .inl (kI, 12, .inl q_reach)), (m0, .inr (11, oX11 ra y3))] H := hP
    have hD : va_D A [(ra 2, .inl (kI, 8, .inl q_told)), (ra 3, .inl (kI, 24, .inl q_kind)), (ra 4, .inl (kI, 24, .inl q_salt)), (ra 8, .inl (kI, 40, .inl q_from)), (ra 9, .inl (kI, 40, .inl q_to)), (ra 10, .inl (kI, 6, .inl q_goal)), (ra 11, .inl (kI, 1019, .inl q_now)), (ra 14, .inl (kI, 12, .inl q_reach)), (m0, .inr (11, oX11 ra y3))] := hD
    refine W.widen (k := 0) (n := 0) (Nat.le_of_ble_eq_true rfl) (Nat.le_of_ble_eq_true rfl) ?_
    obtain rfl : r1 = 0 := iv_one w2 (by decide)
    have hP9 := hP.sub (ws' := [(m0, .inr (11, oX11 ra y3)), (ra 2, .inl (kI, 8, .inl q_told)), (ra 3, .inl (kI, 24, .inl q_kind)), (ra 4, .inl (kI, 24, .inl q_salt)), (ra 8, .inl (kI, 40, .inl q_from)), (ra 9, .inl (kI, 40, .inl q_to)), (ra 10, .inl (kI, 6, .inl q_goal)), (ra 11, .inl (kI, 1019, .inl q_now)), (ra 14, .inl (kI, 12, .inl q_reach))]) [8, 0, 1, 2, 3, 4, 5, 6, 7] rfl
    have hD9 := hD.sub (ws' := [(m0, .inr (11, oX11 ra y3)), (ra 2, .inl (kI, 8, .inl q_told)), (ra 3, .inl (kI, 24, .inl q_kind)), (ra 4, .inl (kI, 24, .inl q_salt)), (ra 8, .inl (kI, 40, .inl q_from)), (ra 9, .inl (kI, 40, .inl q_to)), (ra 10, .inl (kI, 6, .inl q_goal)), (ra 11, .inl (kI, 1019, .inl q_now)), (ra 14, .inl (kI, 12, .inl q_reach))]) [8, 0, 1, 2, 3, 4, 5, 6, 7] (by decide +kernel) rfl
    exact W.iret (v := 0) hx hb hr (fun t ht hW => ⟨⟨0, (), rfl, (iv_w (iv_k (by decide) (by decide) : iv 0 0 0) (by decide) (by decide)), y3, q_now, hq4, hq_now, by rw [ht]; exact hP9, hD9⟩, hS.F ht⟩) hS.2.2 dX11_port_32
  have hJ35 : ∀ (n : Nat) (y35_0 : Nat → Int32) (g35_7 : Nat → Int32) (v35_loc3 : Int32) (H : Heap) (locs : List Loc) (ls : Array Slot), (32 - v35_loc3.toInt).toNat < n → fI lX11 hX11 y35_0 → fI lNow hNow g35_7 → iv 0 2 p0 → iv 0 19 p1 → iv 0 32 v35_loc3 → va_P (dC, dI) vwCl [(m0, .inr (11, oX11 ra y35_0)), (ra 2, .inl (kI, 8, .inl q_told)), (ra 3, .inl (kI, 24, .inl q_kind)), (ra 4, .inl (kI, 24, .inl q_salt)), (ra 8, .inl (kI, 40, .inl q_from)), (ra 9, .inl (kI, 40, .inl q_to)), (ra 10, .inl (kI, 6, .inl q_goal)), (ra 11, .inl (kI, 1019, .inl g35_7)), (ra 14, .inl (kI, 12, .inl q_reach))] H → va_D A [(m0, .inr (11, oX11 ra y35_0)), (ra 2, .inl (kI, 8, .inl q_told)), (ra 3, .inl (kI, 24, .inl q_kind)), (ra 4, .inl (kI, 24, .inl q_salt)), (ra 8, .inl (kI, 40, .inl q_from)), (ra 9, .inl (kI, 40, .inl q_to)), (ra 10, .inl (kI, 6, .inl q_goal)), (ra 11, .inl (kI, 1019, .inl g35_7)), (ra 14, .inl (kI, 12, .inl q_reach))] → va_S A s.heap H locs → lv_has ls 4 [(0, .ref m0), (1, .int p0), (2, .int p1), (3, .int v35_loc3)] → W p l e (headSpec wsX11_port rm_s11_port).room s m args0 below meth c H locs (0) (0) (MQ below (va_Qi (fun (r : Int32) (_ : Unit) => iv (-1) 31 r) (fun _ t => ∃ (x0' : Nat → Int32) (q_now' : Nat → Int32), fI lX11 hX11 x0' ∧ fI lNow hNow q_now' ∧ va_P (dC, dI) vwCl [(m0, .inr (11, oX11 ra x0')), (ra 2, .inl (kI, 8, .inl q_told)), (ra 3, .inl (kI, 24, .inl q_kind)), (ra 4, .inl (kI, 24, .inl q_salt)), (ra 8, .inl (kI, 40, .inl q_from)), (ra 9, .inl (kI, 40, .inl q_to)), (ra 10, .inl (kI, 6, .inl q_goal)), (ra 11, .inl (kI, 1019, .inl q_now')), (ra 14, .inl (kI, 12, .inl q_reach))] t.heap ∧ va_D A [(m0, .inr (11, oX11 ra x0')), (ra 2, .inl (kI, 8, .inl q_told)), (ra 3, .inl (kI, 24, .inl q_kind)), (ra 4, .inl (kI, 24, .inl q_salt)), (ra 8, .inl (kI, 40, .inl q_from)), (ra 9, .inl (kI, 40, .inl q_to)), (ra 10, .inl (kI, 6, .inl q_goal)), (ra 11, .inl (kI, 1019, .inl q_now')), (ra 14, .inl (kI, 12, .inl q_reach))]) A) args0 s 0 0 A) (F0 m 35 ls []) := by
    intro n
    induction n with
    | zero => intro y35_0 g35_7 v35_loc3 H locs ls hm35; exact absurd hm35 (Nat.not_lt_zero _)
    | succ n ih35 =>
      intro y35_0 g35_7 v35_loc3 H locs ls hm35 hI35_0 hI35_7 h35_3 h35_4 h35_5 hP hD hS hl
      refine lv_iload_n hx hb dX11_port_35 rfl (lv_at hl 3 rfl) ?_
      refine lv_bipush (v := 32) hx hb dX11_port_36 (by decide) ?_
      refine lv_icmp_ge (tgt := 67) hx hb dX11_port_38 (by decide) (fun c6 => ?_) (fun c6 => ?_)
      · have b7 : iv 32 32 v35_loc3 := iv_leR c6 (iv_k (by decide) (by decide) : iv 32 32 32) h35_5 (by decide) (by decide)
        refine lv_iconst (v := (-1)) hx hb dX11_port_67 (by decide) ?_
        have hP9 := hP.sub (ws' := [(m0, .inr (11, oX11 ra y35_0)), (ra 2, .inl (kI, 8, .inl q_told)), (ra 3, .inl (kI, 24, .inl q_kind)), (ra 4, .inl (kI, 24, .inl q_salt)), (ra 8, .inl (kI, 40, .inl q_from)), (ra 9, .inl (kI, 40, .inl q_to)), (ra 10, .inl (kI, 6, .inl q_goal)), (ra 11, .inl (kI, 1019, .inl g35_7)), (ra 14, .inl (kI, 12, .inl q_reach))]) [0, 1, 2, 3, 4, 5, 6, 7, 8] rfl
        have hD9 := hD.sub (ws' := [(m0, .inr (11, oX11 ra y35_0)), (ra 2, .inl (kI, 8, .inl q_told)), (ra 3, .inl (kI, 24, .inl q_kind)), (ra 4, .inl (kI, 24, .inl q_salt)), (ra 8, .inl (kI, 40, .inl q_from)), (ra 9, .inl (kI, 40, .inl q_to)), (ra 10, .inl (kI, 6, .inl q_goal)), (ra 11, .inl (kI, 1019, .inl g35_7)), (ra 14, .inl (kI, 12, .inl q_reach))]) [0, 1, 2, 3, 4, 5, 6, 7, 8] (by decide +kernel) rfl
        exact W.iret (v := (-1)) hx hb hr (fun t ht hW => ⟨⟨(-1), (), rfl, (iv_w (iv_k (by decide) (by decide) : iv (-1) (-1) (-1)) (by decide) (by decide)), y35_0, g35_7, hI35_0, hI35_7, by rw [ht]; exact hP9, hD9⟩, hS.F ht⟩) hS.2.2 dX11_port_68
      · have b8 : iv 0 31 v35_loc3 := iv_ltL (Int32.not_le.mp c6) h35_5 (iv_k (by decide) (by decide) : iv 32 32 32) (by decide) (by decide)
        refine lv_aload_n hx hb dX11_port_41 rfl (lv_at hl 0 rfl) ?_
        refine lv_iload_n hx hb dX11_port_42 rfl (lv_at hl 3 rfl) ?_
        refine lv_iload_n hx hb dX11_port_43 rfl (lv_at hl 1 rfl) ?_
        have hPc := hP.sub (ws' := [(m0, .inr (11, oX11 ra y35_0)), (ra 2, .inl (kI, 8, .inl q_told)), (ra 3, .inl (kI, 24, .inl q_kind)), (ra 4, .inl (kI, 24, .inl q_salt)), (ra 8, .inl (kI, 40, .inl q_from)), (ra 9, .inl (kI, 40, .inl q_to)), (ra 10, .inl (kI, 6, .inl q_goal)), (ra 11, .inl (kI, 1019, .inl g35_7)), (ra 14, .inl (kI, 12, .inl q_reach))]) [0, 1, 2, 3, 4, 5, 6, 7, 8] rfl
        have hDc := hD.sub (ws' := [(m0, .inr (11, oX11 ra y35_0)), (ra 2, .inl (kI, 8, .inl q_told)), (ra 3, .inl (kI, 24, .inl q_kind)), (ra 4, .inl (kI, 24, .inl q_salt)), (ra 8, .inl (kI, 40, .inl q_from)), (ra 9, .inl (kI, 40, .inl q_to)), (ra 10, .inl (kI, 6, .inl q_goal)), (ra 11, .inl (kI, 1019, .inl g35_7)), (ra 14, .inl (kI, 12, .inl q_reach))]) [0, 1, 2, 3, 4, 5, 6, 7, 8] (by decide +kernel) rfl
        have hFc := va_free (wc := [(m0, .inr (11, oX11 ra y35_0)), (ra 2, .inl (kI, 8, .inl q_told)), (ra 3, .inl (kI, 24, .inl q_kind)), (ra 4, .inl (kI, 24, .inl q_salt)), (ra 8, .inl (kI, 40, .inl q_from)), (ra 9, .inl (kI, 40, .inl q_to)), (ra 10, .inl (kI, 6, .inl q_goal)), (ra 11, .inl (kI, 1019, .inl g35_7)), (ra 14, .inl (kI, 12, .inl q_reach))]) hD hS hA [0, 1, 2, 3, 4, 5, 6, 7, 8] rfl
        refine va_callv (va_runV (As := [.int v35_loc3, .int p0]) (rest := []) ⟨hx, hb, hml, hown, hts⟩ (s11_wholeWay l dC dI kB kI kJ kZ kC kS H.size m0 ra y35_0 q_told q_kind q_salt q_from q_to q_goal g35_7 q_reach v35_loc3 p0 (hI35_0) (hq_told) (hq_salt) (hq_from) (hq_to) (hq_goal) (hI35_7) (b8) (h35_3) (hLT)) (cwV 2 hts gX11_port_X11_wholeWay rfl rfl rfl (by decide +kernel) ⟨Nat.le_of_ble_eq_true rfl, Nat.le_of_ble_eq_true rfl⟩) ⟨fun a U g mk q => by obtain ⟨q0, q1, qP, qE, qD⟩ := q; exact ⟨q0, q1, qP, kE_call qE, qD⟩, va_recv hK hP (ci := 11) (q0 := 0) rfl rfl, fun U hU hW => ⟨rfl, by rw [hU], by rw [hU]; exact hPc, kE_warm hW hE, hDc.weaken (fun _ _ _ _ => trivial)⟩⟩ rfl rfl hl.1 rfl (lv_room (Nat.le_of_ble_eq_true rfl)) dX11_port_44 ⟨Nat.le_of_ble_eq_true rfl, Nat.le_of_ble_eq_true rfl⟩) hS (fun q _ h => hFc q h) hFc (fun u t H1 locs ht hvm w10 hB hz1 hk1 hS => ?_)
        obtain ⟨y11, f12, hq13, hq14, hP1, hD1⟩ := hB
        rw [ht] at hP1
        try dsimp only at w10
        obtain ⟨hP, hD⟩ := va_join (wr := []) (w1 := [(m0, .inr (11, oX11 ra y11)), (ra 2, .inl (kI, 8, .inl q_told)), (ra 3, .inl (kI, 24, .inl q_kind)), (ra 4, .inl (kI, 24, .inl q_salt)), (ra 8, .inl (kI, 40, .inl q_from)), (ra 9, .inl (kI, 40, .inl q_to)), (ra 10, .inl (kI, 6, .inl q_goal)), (ra 11, .inl (kI, 1019, .inl f12)), (ra 14, .inl (kI, 12, .inl q_reach))]) hP hD [0, 1, 2, 3, 4, 5, 6, 7, 8] [] rfl rfl (by decide +kernel) (by decide +kernel) hk1 hFc hP1 hD1
        generalize H1 = H at hP hS ⊢
        have hP : va_P (dC, dI) vwCl [(m0, .inr (11, oX11 ra y11)), (ra 2, .inl (kI, 8, .inl q_told)), (ra 3, .inl (kI, 24, .inl q_kind)), (ra 4, .inl (kI, 24, .inl q_salt)), (ra 8, .inl (kI, 40, .inl q_from)), (ra 9, .inl (kI, 40, .inl q_to)), (ra 10, .inl (kI, 6, .inl q_goal)), (ra 11, .inl (kI, 1019, .inl f12)), (ra 14, .inl (kI, 12, .inl q_reach))] H := hP
        have hD : va_D A [(m0, .inr (11, oX11 ra y11)), (ra 2, .inl (kI, 8, .inl q_told)), (ra 3, .inl (kI, 24, .inl q_kind)), (ra 4, .inl (kI, 24, .inl q_salt)), (ra 8, .inl (kI, 40, .inl q_from)), (ra 9, .inl (kI, 40, .inl q_to)), (ra 10, .inl (kI, 6, .inl q_goal)), (ra 11, .inl (kI, 1019, .inl f12)), (ra 14, .inl (kI, 12, .inl q_reach))] := hD
        refine W.widen (k := 0) (n := 0) (Nat.le_of_ble_eq_true rfl) (Nat.le_of_ble_eq_true rfl) ?_
        refine lv_aload_n hx hb dX11_port_47 rfl (lv_at hl 0 rfl) ?_
        refine va_get (D := (dC, dI)) (ci := 11) (v := .int (y11 19)) (C := RX11) (T := TX11) (N := 61) hx hb hts hin11 hown hK hP 0 rfl rfl 41 (by decide) hw_0 (fun _ h9 => h9) rfl dX11_port_48 ?_
        refine lv_iload_n hx hb dX11_port_51 rfl (lv_at hl 2 rfl) ?_
        refine lv_ishr hx hb dX11_port_52 ?_
        refine lv_topi (fun z15 _ => ?_)
        refine lv_iconst (v := 1) hx hb dX11_port_53 (by decide) ?_
        refine lv_iand hx hb dX11_port_54 ?_
        refine iv_top (a := 0) (b := 1) (iv_and (m := 1) (by decide) (by decide) (by decide)) (fun z16 b17 => ?_)
        refine lv_iconst (v := 1) hx hb dX11_port_55 (by decide) ?_
        refine lv_icmp_ne (tgt := 61) hx hb dX11_port_56 (by decide) (fun c18 => ?_) (fun c18 => ?_)
        · have b19 : iv 0 0 z16 := iv_neHi c18 b17 (iv_k (by decide) (by decide) : iv 1 1 1) (by decide) (by decide)
          refine lv_iinc (v := v35_loc3 + Int32.ofInt 1) (lv' := [(3, .int (v35_loc3 + Int32.ofInt 1)), (0, .ref m0), (1, .int p0), (2, .int p1)]) hx hb dX11_port_61 hl (k := 3) rfl (rfl) (by decide) rfl (fun ls hl => ?_)
          have b20 : iv 1 32 (v35_loc3 + Int32.ofInt 1) := iv_add b8 (iv_k (by decide) (by decide) : iv 1 1 (Int32.ofInt 1)) (by decide) (by decide) (by decide) (by decide)
          refine lv_goto (tgt := 35) hx hb dX11_port_64 (by decide) ?_
          exact ih35 y11 f12 (v35_loc3 + Int32.ofInt 1) _ _ _ (ms_up (c := 1) (d := 0) b8 hm35 (by decide) (iv_inc 1 b8 (by decide) (by decide) (by decide) (by decide)) (by decide) rfl) (hq13) (hq14) (h35_3) (h35_4) ((iv_w b20 (by decide) (by decide))) (hP.sub [0, 1, 2, 3, 4, 5, 6, 7, 8] rfl) (hD.sub [0, 1, 2, 3, 4, 5, 6, 7, 8] (by decide +kernel) rfl) hS (lv_sub hl [1, 2, 3, 0] rfl)
        · have b21 : iv 1 1 z16 := iv_eqL c18 (iv_k (by decide) (by decide) : iv 1 1 1)
          refine lv_iload_n hx hb dX11_port_59 rfl (lv_at hl 3 rfl) ?_
          have hP9 := hP.sub (ws' := [(m0, .inr (11, oX11 ra y11)), (ra 2, .inl (kI, 8, .inl q_told)), (ra 3, .inl (kI, 24, .inl q_kind)), (ra 4, .inl (kI, 24, .inl q_salt)), (ra 8, .inl (kI, 40, .inl q_from)), (ra 9, .inl (kI, 40, .inl q_to)), (ra 10, .inl (kI, 6, .inl q_goal)), (ra 11, .inl (kI, 1019, .inl f12)), (ra 14, .inl (kI, 12, .inl q_reach))]) [0, 1, 2, 3, 4, 5, 6, 7, 8] rfl
          have hD9 := hD.sub (ws' := [(m0, .inr (11, oX11 ra y11)), (ra 2, .inl (kI, 8, .inl q_told)), (ra 3, .inl (kI, 24, .inl q_kind)), (ra 4, .inl (kI, 24, .inl q_salt)), (ra 8, .inl (kI, 40, .inl q_from)), (ra 9, .inl (kI, 40, .inl q_to)), (ra 10, .inl (kI, 6, .inl q_goal)), (ra 11, .inl (kI, 1019, .inl f12)), (ra 14, .inl (kI, 12, .inl q_reach))]) [0, 1, 2, 3, 4, 5, 6, 7, 8] (by decide +kernel) rfl
          exact W.iret (v := v35_loc3) hx hb hr (fun t ht hW => ⟨⟨v35_loc3, (), rfl, (iv_w b8 (by decide) (by decide)), y11, f12, hq13, hq14, by rw [ht]; exact hP9, hD9⟩, hS.F ht⟩) hS.2.2 dX11_port_60
  refine lv_aload_n hx hb dX11_port_0 rfl (lv_at hl 0 rfl) ?_
  refine lv_iconst (v := 0) hx hb dX11_port_1 (by decide) ?_
  refine va_put (D := (dC, dI)) (ci := 11) (v := .int 0) (ty := .int) (C := RX11) (T := TX11) (N := 61) hx hb hts hin11 tyX11 tyX11_ok nmX11 hown hK hP hD hS 0 rfl rfl 2 (by decide) hw_1 (fun _ h9 => h9) rfl (by decide +kernel) rfl rfl (Nat.le_of_ble_eq_true rfl) dX11_port_2 (fun H locs hP hD hS => ?_)
  have hP : va_P (dC, dI) vwCl [(m0, .inr (11, oX11 ra (upd x0 0 0))), (ra 2, .inl (kI, 8, .inl q_told)), (ra 3, .inl (kI, 24, .inl q_kind)), (ra 4, .inl (kI, 24, .inl q_salt)), (ra 8, .inl (kI, 40, .inl q_from)), (ra 9, .inl (kI, 40, .inl q_to)), (ra 10, .inl (kI, 6, .inl q_goal)), (ra 11, .inl (kI, 1019, .inl q_now)), (ra 14, .inl (kI, 12, .inl q_reach))] H := hP
  have hD : va_D A [(m0, .inr (11, oX11 ra (upd x0 0 0))), (ra 2, .inl (kI, 8, .inl q_told)), (ra 3, .inl (kI, 24, .inl q_kind)), (ra 4, .inl (kI, 24, .inl q_salt)), (ra 8, .inl (kI, 40, .inl q_from)), (ra 9, .inl (kI, 40, .inl q_to)), (ra 10, .inl (kI, 6, .inl q_goal)), (ra 11, .inl (kI, 1019, .inl q_now)), (ra 14, .inl (kI, 12, .inl q_reach))] := hD
  refine lv_aload_n hx hb dX11_port_5 rfl (lv_at hl 0 rfl) ?_
  refine lv_iload_n hx hb dX11_port_6 rfl (lv_at hl 1 rfl) ?_
  have hPc := hP.sub (ws' := [(m0, .inr (11, oX11 ra (upd x0 0 0))), (ra 2, .inl (kI, 8, .inl q_told))]) [0, 1] rfl
  have hDc := hD.sub (ws' := [(m0, .inr (11, oX11 ra (upd x0 0 0))), (ra 2, .inl (kI, 8, .inl q_told))]) [0, 1] (by decide +kernel) rfl
  have hFc := va_free (wc := [(m0, .inr (11, oX11 ra (upd x0 0 0))), (ra 2, .inl (kI, 8, .inl q_told))]) hD hS hA [0, 1] rfl
  refine va_calli (va_runV (As := [.int p0]) (rest := []) ⟨hx, hb, hml, hown, hts⟩ (s11_isGoal l dC dI kB kI kJ kZ kC kS H.size m0 ra (upd x0 0 0) q_told p0 ((fI_u hX (k := 0) ((iv_w (iv_k (by decide) (by decide) : iv 0 0 0) (by decide) (by decide))))) (hq_told)) (cwV 1 hts gX11_port_X11_isGoal rfl rfl rfl (by decide +kernel) ⟨Nat.le_of_ble_eq_true rfl, Nat.le_of_ble_eq_true rfl⟩) ⟨fun a U g mk q => by obtain ⟨q0, q1, qP, qE, qD⟩ := q; exact ⟨q0, q1, qP, kE_call qE, qD⟩, va_recv hK hP (ci := 11) (q0 := 0) rfl rfl, fun U hU hW => ⟨rfl, by rw [hU], by rw [hU]; exact hPc, kE_warm hW hE, hDc.weaken (fun _ _ _ _ => trivial)⟩⟩ rfl rfl hl.1 rfl (lv_room (Nat.le_of_ble_eq_true rfl)) dX11_port_7 ⟨Nat.le_of_ble_eq_true rfl, Nat.le_of_ble_eq_true rfl⟩) hS (fun q _ h => hFc q h) hFc (fun r22 u t H1 locs ht hvm w23 hB hz1 hk1 hS => ?_)
  obtain ⟨hP1, hD1⟩ := hB
  rw [ht] at hP1
  try dsimp only at w23
  obtain ⟨hP, hD⟩ := va_join (wr := [(ra 3, .inl (kI, 24, .inl q_kind)), (ra 4, .inl (kI, 24, .inl q_salt)), (ra 8, .inl (kI, 40, .inl q_from)), (ra 9, .inl (kI, 40, .inl q_to)), (ra 10, .inl (kI, 6, .inl q_goal)), (ra 11, .inl (kI, 1019, .inl q_now)), (ra 14, .inl (kI, 12, .inl q_reach))]) (w1 := [(m0, .inr (11, oX11 ra (upd x0 0 0))), (ra 2, .inl (kI, 8, .inl q_told))]) hP hD [0, 1] [2, 3, 4, 5, 6, 7, 8] rfl rfl (by decide +kernel) (by decide +kernel) hk1 hFc hP1 hD1
  generalize H1 = H at hP hS ⊢
  have hP : va_P (dC, dI) vwCl [(ra 3, .inl (kI, 24, .inl q_kind)), (ra 4, .inl (kI, 24, .inl q_salt)), (ra 8, .inl (kI, 40, .inl q_from)), (ra 9, .inl (kI, 40, .inl q_to)), (ra 10, .inl (kI, 6, .inl q_goal)), (ra 11, .inl (kI, 1019, .inl q_now)), (ra 14, .inl (kI, 12, .inl q_reach)), (m0, .inr (11, oX11 ra (upd x0 0 0))), (ra 2, .inl (kI, 8, .inl q_told))] H := hP
  have hD : va_D A [(ra 3, .inl (kI, 24, .inl q_kind)), (ra 4, .inl (kI, 24, .inl q_salt)), (ra 8, .inl (kI, 40, .inl q_from)), (ra 9, .inl (kI, 40, .inl q_to)), (ra 10, .inl (kI, 6, .inl q_goal)), (ra 11, .inl (kI, 1019, .inl q_now)), (ra 14, .inl (kI, 12, .inl q_reach)), (m0, .inr (11, oX11 ra (upd x0 0 0))), (ra 2, .inl (kI, 8, .inl q_told))] := hD
  refine W.widen (k := 0) (n := 0) (Nat.le_of_ble_eq_true rfl) (Nat.le_of_ble_eq_true rfl) ?_
  refine lv_if_eq (tgt := 27) hx hb dX11_port_10 (by decide) (fun c24 => ?_) (fun c24 => ?_)
  · have b25 : iv 0 0 r22 := iv_eqL c24 (iv_k (by decide) (by decide) : iv 0 0 0)
    exact hJ27 (upd x0 0 0) _ _ _ ((fI_u hX (k := 0) ((iv_w (iv_k (by decide) (by decide) : iv 0 0 0) (by decide) (by decide))))) ((iv_k (by decide) (by decide) : iv 0 0 0)) (hP.sub [7, 8, 0, 1, 2, 3, 4, 5, 6] rfl) (hD.sub [7, 8, 0, 1, 2, 3, 4, 5, 6] (by decide +kernel) rfl) hS (lv_sub hl [0, 1, 2] rfl)
  · have b26 : iv 1 1 r22 := iv_neLo c24 w23.1 (iv_k (by decide) (by decide) : iv 0 0 0) (by decide) (by decide)
    have b27 : iv 0 2 p0 := (w23.2).resolve_left (iv_ne b26 (iv_k (by decide) (by decide) : iv 0 0 0) (by decide))
    refine lv_iload_n hx hb dX11_port_13 rfl (lv_at hl 2 rfl) ?_
    refine lv_iconst (v := 0) hx hb dX11_port_14 (by decide) ?_
    refine lv_aload_n hx hb dX11_port_15 rfl (lv_at hl 0 rfl) ?_
    have hPc := hP.sub (ws' := [(m0, .inr (11, oX11 ra (upd x0 0 0))), (ra 2, .inl (kI, 8, .inl q_told))]) [7, 8] rfl
    have hDc := hD.sub (ws' := [(m0, .inr (11, oX11 ra (upd x0 0 0))), (ra 2, .inl (kI, 8, .inl q_told))]) [7, 8] (by decide +kernel) rfl
    have hFc := va_free (wc := [(m0, .inr (11, oX11 ra (upd x0 0 0))), (ra 2, .inl (kI, 8, .inl q_told))]) hD hS hA [7, 8] rfl
    refine va_calli (va_runV (As := []) (rest := [.int 0, .int p1]) ⟨hx, hb, hml, hown, hts⟩ (s11_links l dC dI kB kI kJ kZ kC kS H.size m0 ra (upd x0 0 0) q_told ((fI_u hX (k := 0) ((iv_w (iv_k (by decide) (by decide) : iv 0 0 0) (by decide) (by decide))))) (hq_told)) (cwV 0 hts gX11_port_X11_links rfl rfl rfl (by decide +kernel) ⟨Nat.le_of_ble_eq_true rfl, Nat.le_of_ble_eq_true rfl⟩) ⟨fun a U g mk q => by obtain ⟨q0, q1, qP, qE, qD⟩ := q; exact ⟨q0, q1, qP, kE_call qE, qD⟩, va_recv hK hP (ci := 11) (q0 := 7) rfl rfl, fun U hU hW => ⟨rfl, by rw [hU], by rw [hU]; exact hPc, kE_warm hW hE, hDc.weaken (fun _ _ _ _ => trivial)⟩⟩ rfl rfl hl.1 rfl (lv_room (Nat.le_of_ble_eq_true rfl)) dX11_port_16 ⟨Nat.le_of_ble_eq_true rfl, Nat.le_of_ble_eq_true rfl⟩) hS (fun q _ h => hFc q h) hFc (fun r28 u t H1 locs ht hvm w29 hB hz1 hk1 hS => ?_)
    obtain ⟨hP1, hD1⟩ := hB
    rw [ht] at hP1
    try dsimp only at w29
    obtain ⟨hP, hD⟩ := va_join (wr := [(ra 3, .inl (kI, 24, .inl q_kind)), (ra 4, .inl (kI, 24, .inl q_salt)), (ra 8, .inl (kI, 40, .inl q_from)), (ra 9, .inl (kI, 40, .inl q_to)), (ra 10, .inl (kI, 6, .inl q_goal)), (ra 11, .inl (kI, 1019, .inl q_now)), (ra 14, .inl (kI, 12, .inl q_reach))]) (w1 := [(m0, .inr (11, oX11 ra (upd x0 0 0))), (ra 2, .inl (kI, 8, .inl q_told))]) hP hD [7, 8] [0, 1, 2, 3, 4, 5, 6] rfl rfl (by decide +kernel) (by decide +kernel) hk1 hFc hP1 hD1
    generalize H1 = H at hP hS ⊢
    have hP : va_P (dC, dI) vwCl [(ra 3, .inl (kI, 24, .inl q_kind)), (ra 4, .inl (kI, 24, .inl q_salt)), (ra 8, .inl (kI, 40, .inl q_from)), (ra 9, .inl (kI, 40, .inl q_to)), (ra 10, .inl (kI, 6, .inl q_goal)), (ra 11, .inl (kI, 1019, .inl q_now)), (ra 14, .inl (kI, 12, .inl q_reach)), (m0, .inr (11, oX11 ra (upd x0 0 0))), (ra 2, .inl (kI, 8, .inl q_told))] H := hP
    have hD : va_D A [(ra 3, .inl (kI, 24, .inl q_kind)), (ra 4, .inl (kI, 24, .inl q_salt)), (ra 8, .inl (kI, 40, .inl q_from)), (ra 9, .inl (kI, 40, .inl q_to)), (ra 10, .inl (kI, 6, .inl q_goal)), (ra 11, .inl (kI, 1019, .inl q_now)), (ra 14, .inl (kI, 12, .inl q_reach)), (m0, .inr (11, oX11 ra (upd x0 0 0))), (ra 2, .inl (kI, 8, .inl q_told))] := hD
    refine W.widen (k := 0) (n := 0) (Nat.le_of_ble_eq_true rfl) (Nat.le_of_ble_eq_true rfl) ?_
    subst w29
    refine lv_iconst (v := 1) hx hb dX11_port_19 (by decide) ?_
    refine lv_isub hx hb dX11_port_20 ?_
    refine iv_top (a := (-1)) (b := 19) (iv_sub (hq_told 1 : iv 0 20 (q_told 1)) (iv_k (by decide) (by decide) : iv 1 1 1) (by decide) (by decide) (by decide) (by decide)) (fun z30 b31 => ?_)
    have hPc := hP.sub (ws' := []) [] rfl
    have hDc := hD.sub (ws' := []) [] (by decide +kernel) rfl
    have hFc := va_free (wc := []) hD hS hA [] rfl
    refine va_calli (va_runS (As := [.int p1, .int 0, .int z30]) (rest := []) ⟨hx, hb, hml, hown, hts⟩ (s11_isIn l dC dI kB kI kJ kZ kC kS H.size p1 0 z30) (va_cwS 3 hts gX11_port_X11_isIn rfl rfl rfl (by decide +kernel) ⟨Nat.le_of_ble_eq_true rfl, Nat.le_of_ble_eq_true rfl⟩) ⟨fun a U g mk q => by obtain ⟨q0, q1, qP, qE, qD⟩ := q; exact ⟨q0, q1, qP, kE_call qE, qD⟩, fun U hU hW => ⟨rfl, by rw [hU], by rw [hU]; exact hPc, kE_warm hW hE, hDc.weaken (fun _ _ _ _ => trivial)⟩⟩ rfl rfl hl.1 rfl (lv_room (Nat.le_of_ble_eq_true rfl)) dX11_port_21 ⟨Nat.le_of_ble_eq_true rfl, Nat.le_of_ble_eq_true rfl⟩) hS (fun q _ h => hFc q h) hFc (fun r32 u t H1 locs ht hvm w33 hB hz1 hk1 hS => ?_)
    obtain ⟨hP1, hD1⟩ := hB
    rw [ht] at hP1
    try dsimp only at w33
    obtain ⟨hP, hD⟩ := va_join (wr := [(ra 3, .inl (kI, 24, .inl q_kind)), (ra 4, .inl (kI, 24, .inl q_salt)), (ra 8, .inl (kI, 40, .inl q_from)), (ra 9, .inl (kI, 40, .inl q_to)), (ra 10, .inl (kI, 6, .inl q_goal)), (ra 11, .inl (kI, 1019, .inl q_now)), (ra 14, .inl (kI, 12, .inl q_reach)), (m0, .inr (11, oX11 ra (upd x0 0 0))), (ra 2, .inl (kI, 8, .inl q_told))]) (w1 := []) hP hD [] [0, 1, 2, 3, 4, 5, 6, 7, 8] rfl rfl (by decide +kernel) (by decide +kernel) hk1 hFc hP1 hD1
    generalize H1 = H at hP hS ⊢
    have hP : va_P (dC, dI) vwCl [(ra 3, .inl (kI, 24, .inl q_kind)), (ra 4, .inl (kI, 24, .inl q_salt)), (ra 8, .inl (kI, 40, .inl q_from)), (ra 9, .inl (kI, 40, .inl q_to)), (ra 10, .inl (kI, 6, .inl q_goal)), (ra 11, .inl (kI, 1019, .inl q_now)), (ra 14, .inl (kI, 12, .inl q_reach)), (m0, .inr (11, oX11 ra (upd x0 0 0))), (ra 2, .inl (kI, 8, .inl q_told))] H := hP
    have hD : va_D A [(ra 3, .inl (kI, 24, .inl q_kind)), (ra 4, .inl (kI, 24, .inl q_salt)), (ra 8, .inl (kI, 40, .inl q_from)), (ra 9, .inl (kI, 40, .inl q_to)), (ra 10, .inl (kI, 6, .inl q_goal)), (ra 11, .inl (kI, 1019, .inl q_now)), (ra 14, .inl (kI, 12, .inl q_reach)), (m0, .inr (11, oX11 ra (upd x0 0 0))), (ra 2, .inl (kI, 8, .inl q_told))] := hD
    refine W.widen (k := 0) (n := 0) (Nat.le_of_ble_eq_true rfl) (Nat.le_of_ble_eq_true rfl) ?_
    refine lv_if_ne (tgt := 33) hx hb dX11_port_24 (by decide) (fun c34 => ?_) (fun c34 => ?_)
    · have b35 : iv 1 1 r32 := iv_neLo c34 w33.1 (iv_k (by decide) (by decide) : iv 0 0 0) (by decide) (by decide)
      have hr36 := (w33.2).resolve_left (iv_ne b35 (iv_k (by decide) (by decide) : iv 0 0 0) (by decide))
      have b37 : iv 0 19 p1 := iv_cap (in_iv hr36 (iv_k (by decide) (by decide) : iv 0 0 0) b31) (iv_t p1) (by decide) (by decide)
      refine lv_iconst (v := 0) hx hb dX11_port_33 (by decide) ?_
      refine lv_istore_n (lv' := [(3, .int 0), (0, .ref m0), (1, .int p0), (2, .int p1)]) hx hb dX11_port_34 rfl hl (by decide) rfl (fun ls hl => ?_)
      exact hJ35 _ (upd x0 0 0) q_now 0 _ _ _ (Nat.lt_succ_self _) ((fI_u hX (k := 0) ((iv_w (iv_k (by decide) (by decide) : iv 0 0 0) (by decide) (by decide))))) (hq_now) (b27) (b37) ((iv_w (iv_k (by decide) (by decide) : iv 0 0 0) (by decide) (by decide))) (hP.sub [7, 8, 0, 1, 2, 3, 4, 5, 6] rfl) (hD.sub [7, 8, 0, 1, 2, 3, 4, 5, 6] (by decide +kernel) rfl) hS (lv_sub hl [1, 2, 3, 0] rfl)
    · have b38 : iv 0 0 r32 := iv_eqL c34 (iv_k (by decide) (by decide) : iv 0 0 0)
      exact hJ27 (upd x0 0 0) _ _ _ ((fI_u hX (k := 0) ((iv_w (iv_k (by decide) (by decide) : iv 0 0 0) (by decide) (by decide))))) ((iv_k (by decide) (by decide) : iv 0 0 0)) (hP.sub [7, 8, 0, 1, 2, 3, 4, 5, 6] rfl) (hD.sub [7, 8, 0, 1, 2, 3, 4, 5, 6] (by decide +kernel) rfl) hS (lv_sub hl [0, 1, 2] rfl)
def rm_s11_use : Room := { frames := 4, cells := 0, slots := 0, locals := 102 }
set_option maxHeartbeats 4000000 in
set_option maxRecDepth 100000 in
theorem s11_use (l : Launch) (dC : Nat → ClassId) (dI : Nat → Nat → Nat) (kB kI kJ kZ kC kS : ClassId) (sz : Nat) (m0 : Nat) (ra : Nat → Nat) (x0 : Nat → Int32) (q_told : Nat → Int32) (q_kind : Nat → Int32) (q_salt : Nat → Int32) (q_from : Nat → Int32) (q_to : Nat → Int32) (q_goal : Nat → Int32) (q_now : Nat → Int32) (q_reach : Nat → Int32) (p0 : Int32) (p1 : Int32) (hX : fI lX11 hX11 x0) (hq_told : fI lTold hTold q_told) (hq_salt : fI (fun _ => 0) (fun _ => 15) q_salt) (hq_from : fI (fun _ => 0) (fun _ => 11) q_from) (hq_to : fI (fun _ => 0) (fun _ => 11) q_to) (hq_goal : fI (fun _ => 0) (fun _ => 11) q_goal) (hq_now : fI lNow hNow q_now) (hLT : ∀ j : Nat, (j : Int) < (q_told 1).toInt → (q_from j).toInt < (q_to j).toInt) : Met l yX11_use wsX11_use rm_s11_use (va_Pc [.ref m0, .int p0, .int p1] (fun U => U.heap.size = sz ∧ va_P (dC, dI) vwCl [(m0, .inr (11, oX11 ra x0)), (ra 2, .inl (kI, 8, .inl q_told)), (ra 3, .inl (kI, 24, .inl q_kind)), (ra 4, .inl (kI, 24, .inl q_salt)), (ra 8, .inl (kI, 40, .inl q_from)), (ra 9, .inl (kI, 40, .inl q_to)), (ra 10, .inl (kI, 6, .inl q_goal)), (ra 11, .inl (kI, 1019, .inl q_now)), (ra 14, .inl (kI, 12, .inl q_reach))] U.heap ∧ kE dC dI kB kI kJ kZ kC kS U ∧ va_D (fun _ => True) [(m0, .inr (11, oX11 ra x0)), (ra 2, .inl (kI, 8, .inl q_told)), (ra 3, .inl (kI, 24, .inl q_kind)), (ra 4, .inl (kI, 24, .inl q_salt)), (ra 8, .inl (kI, 40, .inl q_from)), (ra 9, .inl (kI, 40, .inl q_to)), (ra 10, .inl (kI, 6, .inl q_goal)), (ra 11, .inl (kI, 1019, .inl q_now)), (ra 14, .inl (kI, 12, .inl q_reach))])) (va_Qi (fun (r : Int32) (_ : Unit) => True) (fun _ t => ∃ (x0' : Nat → Int32) (q_now' : Nat → Int32), fI lX11 hX11 x0' ∧ fI lNow hNow q_now' ∧ va_P (dC, dI) vwCl [(m0, .inr (11, oX11 ra x0')), (ra 2, .inl (kI, 8, .inl q_told)), (ra 3, .inl (kI, 24, .inl q_kind)), (ra 4, .inl (kI, 24, .inl q_salt)), (ra 8, .inl (kI, 40, .inl q_from)), (ra 9, .inl (kI, 40, .inl q_to)), (ra 10, .inl (kI, 6, .inl q_goal)), (ra 11, .inl (kI, 1019, .inl q_now')), (ra 14, .inl (kI, 12, .inl q_reach))] t.heap ∧ va_D (va_A [(m0, .inr (11, oX11 ra x0)), (ra 2, .inl (kI, 8, .inl q_told)), (ra 3, .inl (kI, 24, .inl q_kind)), (ra 4, .inl (kI, 24, .inl q_salt)), (ra 8, .inl (kI, 40, .inl q_from)), (ra 9, .inl (kI, 40, .inl q_to)), (ra 10, .inl (kI, 6, .inl q_goal)), (ra 11, .inl (kI, 1019, .inl q_now)), (ra 14, .inl (kI, 12, .inl q_reach))] sz) [(m0, .inr (11, oX11 ra x0')), (ra 2, .inl (kI, 8, .inl q_told)), (ra 3, .inl (kI, 24, .inl q_kind)), (ra 4, .inl (kI, 24, .inl q_salt)), (ra 8, .inl (kI, 40, .inl q_from)), (ra 9, .inl (kI, 40, .inl q_to)), (ra 10, .inl (kI, 6, .inl q_goal)), (ra 11, .inl (kI, 1019, .inl q_now')), (ra 14, .inl (kI, 12, .inl q_reach))]) (va_A [(m0, .inr (11, oX11 ra x0)), (ra 2, .inl (kI, 8, .inl q_told)), (ra 3, .inl (kI, 24, .inl q_kind)), (ra 4, .inl (kI, 24, .inl q_salt)), (ra 8, .inl (kI, 40, .inl q_from)), (ra 9, .inl (kI, 40, .inl q_to)), (ra 10, .inl (kI, 6, .inl q_goal)), (ra 11, .inl (kI, 1019, .inl q_now)), (ra 14, .inl (kI, 12, .inl q_reach))] sz)) 0 0 (va_A [(m0, .inr (11, oX11 ra x0)), (ra 2, .inl (kI, 8, .inl q_told)), (ra 3, .inl (kI, 24, .inl q_kind)), (ra 4, .inl (kI, 24, .inl q_salt)), (ra 8, .inl (kI, 40, .inl q_from)), (ra 9, .inl (kI, 40, .inl q_to)), (ra 10, .inl (kI, 6, .inl q_goal)), (ra 11, .inl (kI, 1019, .inl q_now)), (ra 14, .inl (kI, 12, .inl q_reach))] sz) := by
  refine Met.ofW (cc := cX11_use) (maxL := 5) (ret := (some .int)) (by decide) rfl ?_
  intro p e s m args0 below meth c s₁ B hml hv
  obtain ⟨hargs, hsz, hP, hE, hD0⟩ := hv
  have hx := B.exec
  have hb := B.bytes
  have hr := B.returns
  have hts := atoms_spec (ws := wsX11_use) B.pre
  have hown : s.vm.findClass RX11 = some m.cls := findClass_of_methodNamed B.named
  have hlocks := B.notSynchronized
  have hK := hE.1
  have hin11 : ∀ w ∈ wsX110, w ∈ wsX11_use := fun _ h9 => List.mem_cons_of_mem _ (List.mem_append_right _ h9)
  have hw_0 := hts (.fieldLink RX11 440 "PathProberModel" "wayLinks" "I") (List.mem_of_getElem? (i := 2) (by decide +kernel))
  have hw_1 := hts (.fieldLink RX11 142 "PathProberModel" "code" "I") (List.mem_of_getElem? (i := 1) (by decide +kernel))
  subst hsz
  have hD := hD0.self (sz := s.heap.size)
  generalize hAe : va_A [(m0, .inr (11, oX11 ra x0)), (ra 2, .inl (kI, 8, .inl q_told)), (ra 3, .inl (kI, 24, .inl q_kind)), (ra 4, .inl (kI, 24, .inl q_salt)), (ra 8, .inl (kI, 40, .inl q_from)), (ra 9, .inl (kI, 40, .inl q_to)), (ra 10, .inl (kI, 6, .inl q_goal)), (ra 11, .inl (kI, 1019, .inl q_now)), (ra 14, .inl (kI, 12, .inl q_reach))] s.heap.size = A at hD ⊢
  have hA : ∀ q : Nat, s.heap.size ≤ q → A q := fun q h => by rw [← hAe]; exact Or.inr h
  have hS : va_S A s.heap s.heap [] := va_S.rf
  have hP : va_P (dC, dI) vwCl [(m0, .inr (11, oX11 ra x0)), (ra 2, .inl (kI, 8, .inl q_told)), (ra 3, .inl (kI, 24, .inl q_kind)), (ra 4, .inl (kI, 24, .inl q_salt)), (ra 8, .inl (kI, 40, .inl q_from)), (ra 9, .inl (kI, 40, .inl q_to)), (ra 10, .inl (kI, 6, .inl q_goal)), (ra 11, .inl (kI, 1019, .inl q_now)), (ra 14, .inl (kI, 12, .inl q_reach))] s.heap := hP
  have hl := lv_entry ([.ref m0, .int p0, .int p1]) (n := 5) (Nat.le_of_ble_eq_true rfl)
  have hla : entryFrame m args0 5 = entryFrame m ([.ref m0, .int p0, .int p1] : List Value).toArray 5 := by rw [hargs]
  rw [hla, lg_entry_eq]
  generalize (lg_sl ([.ref m0, .int p0, .int p1]) ++ List.replicate (5 - (lg_sl ([.ref m0, .int p0, .int p1])).length) Slot.unset).toArray = ls at hl ⊢
  have hl : lv_has ls 5 [(0, .ref m0), (1, .int p0), (2, .int p1)] := hl
  have hJ27 : ∀ (y27_0 : Nat → Int32) (H : Heap) (locs : List Loc) (ls : Array Slot), fI lX11 hX11 y27_0 → iv 0 0 (y27_0 0) → va_P (dC, dI) vwCl [(m0, .inr (11, oX11 ra y27_0)), (ra 2, .inl (kI, 8, .inl q_told)), (ra 3, .inl (kI, 24, .inl q_kind)), (ra 4, .inl (kI, 24, .inl q_salt)), (ra 8, .inl (kI, 40, .inl q_from)), (ra 9, .inl (kI, 40, .inl q_to)), (ra 10, .inl (kI, 6, .inl q_goal)), (ra 11, .inl (kI, 1019, .inl q_now)), (ra 14, .inl (kI, 12, .inl q_reach))] H → va_D A [(m0, .inr (11, oX11 ra y27_0)), (ra 2, .inl (kI, 8, .inl q_told)), (ra 3, .inl (kI, 24, .inl q_kind)), (ra 4, .inl (kI, 24, .inl q_salt)), (ra 8, .inl (kI, 40, .inl q_from)), (ra 9, .inl (kI, 40, .inl q_to)), (ra 10, .inl (kI, 6, .inl q_goal)), (ra 11, .inl (kI, 1019, .inl q_now)), (ra 14, .inl (kI, 12, .inl q_reach))] → va_S A s.heap H locs → lv_has ls 5 [(0, .ref m0), (1, .int p0), (2, .int p1)] → W p l e (headSpec wsX11_use rm_s11_use).room s m args0 below meth c H locs (0) (0) (MQ below (va_Qi (fun (r : Int32) (_ : Unit) => True) (fun _ t => ∃ (x0' : Nat → Int32) (q_now' : Nat → Int32), fI lX11 hX11 x0' ∧ fI lNow hNow q_now' ∧ va_P (dC, dI) vwCl [(m0, .inr (11, oX11 ra x0')), (ra 2, .inl (kI, 8, .inl q_told)), (ra 3, .inl (kI, 24, .inl q_kind)), (ra 4, .inl (kI, 24, .inl q_salt)), (ra 8, .inl (kI, 40, .inl q_from)), (ra 9, .inl (kI, 40, .inl q_to)), (ra 10, .inl (kI, 6, .inl q_goal)), (ra 11, .inl (kI, 1019, .inl q_now')), (ra 14, .inl (kI, 12, .inl q_reach))] t.heap ∧ va_D A [(m0, .inr (11, oX11 ra x0')), (ra 2, .inl (kI, 8, .inl q_told)), (ra 3, .inl (kI, 24, .inl q_kind)), (ra 4, .inl (kI, 24, .inl q_salt)), (ra 8, .inl (kI, 40, .inl q_from)), (ra 9, .inl (kI, 40, .inl q_to)), (ra 10, .inl (kI, 6, .inl q_goal)), (ra 11, .inl (kI, 1019, .inl q_now')), (ra 14, .inl (kI, 12, .inl q_reach))]) A) args0 s 0 0 A) (F0 m 27 ls []) := by
    intro y27_0 H locs ls hI27_0 h27_2 hP hD hS hl
    refine lv_aload_n hx hb dX11_use_27 rfl (lv_at hl 0 rfl) ?_
    refine lv_iconst (v := 1) hx hb dX11_use_28 (by decide) ?_
    have hPc := hP.sub (ws' := [(m0, .inr (11, oX11 ra y27_0))]) [0] rfl
    have hDc := hD.sub (ws' := [(m0, .inr (11, oX11 ra y27_0))]) [0] (by decide +kernel) rfl
    have hFc := va_free (wc := [(m0, .inr (11, oX11 ra y27_0))]) hD hS hA [0] rfl
    refine va_calli (va_runV (As := [.int 1]) (rest := []) ⟨hx, hb, hml, hown, hts⟩ (s11_fail l dC dI kB kI kJ kZ kC kS H.size m0 ra y27_0 1 (hI27_0)) (cwV 1 hts gX11_use_X11_fail rfl rfl rfl (by decide +kernel) ⟨Nat.le_of_ble_eq_true rfl, Nat.le_of_ble_eq_true rfl⟩) ⟨fun a U g mk q => by obtain ⟨q0, q1, qP, qE, qD⟩ := q; exact ⟨q0, q1, qP, kE_call qE, qD⟩, va_recv hK hP (ci := 11) (q0 := 0) rfl rfl, fun U hU hW => ⟨rfl, by rw [hU], by rw [hU]; exact hPc, kE_warm hW hE, hDc.weaken (fun _ _ _ _ => trivial)⟩⟩ rfl rfl hl.1 rfl (lv_room (Nat.le_of_ble_eq_true rfl)) dX11_use_29 ⟨Nat.le_of_ble_eq_true rfl, Nat.le_of_ble_eq_true rfl⟩) hS (fun q _ h => hFc q h) hFc (fun r1 u t H1 locs ht hvm w2 hB hz1 hk1 hS => ?_)
    obtain ⟨y3, hq4, hq5, hP1, hD1⟩ := hB
    rw [ht] at hP1
    try dsimp only at w2
    obtain ⟨hP, hD⟩ := va_join (wr := [(ra 2, .inl (kI, 8, .inl q_told)), (ra 3, .inl (kI, 24, .inl q_kind)), (ra 4, .inl (kI, 24, .inl q_salt)), (ra 8, .inl (kI, 40, .inl q_from)), (ra 9, .inl (kI, 40, .inl q_to)), (ra 10, .inl (kI, 6, .inl q_goal)), (ra 11, .inl (kI, 1019, .inl q_now)), (ra 14, .inl (kI, 12, .inl q_reach))]) (w1 := [(m0, .inr (11, oX11 ra y3))]) hP hD [0] [1, 2, 3, 4, 5, 6, 7, 8] rfl rfl (by decide +kernel) (by decide +kernel) hk1 hFc hP1 hD1
    generalize H1 = H at hP hS ⊢
    have hP : va_P (dC, dI) vwCl [(ra 2, .inl (kI, 8, .inl q_told)), (ra 3, .inl (kI, 24, .inl q_kind)), (ra 4, .inl (kI, 24, .inl q_salt)), (ra 8, .inl (kI, 40, .inl q_from)), (ra 9, .inl (kI, 40, .inl q_to)), (ra 10, .inl (kI, 6, .inl q_goal)), (ra 11, .inl (kI, 1019, .inl q_now)), (ra 14, .inl (kI, 12, .inl q_reach)), (m0, .inr (11, oX11 ra y3))] H := hP
    have hD : va_D A [(ra 2, .inl (kI, 8, .inl q_told)), (ra 3, .inl (kI, 24, .inl q_kind)), (ra 4, .inl (kI, 24, .inl q_salt)), (ra 8, .inl (kI, 40, .inl q_from)), (ra 9, .inl (kI, 40, .inl q_to)), (ra 10, .inl (kI, 6, .inl q_goal)), (ra 11, .inl (kI, 1019, .inl q_now)), (ra 14, .inl (kI, 12, .inl q_reach)), (m0, .inr (11, oX11 ra y3))] := hD
    refine W.widen (k := 0) (n := 0) (Nat.le_of_ble_eq_true rfl) (Nat.le_of_ble_eq_true rfl) ?_
    obtain rfl : r1 = 0 := iv_one w2 (by decide)
    have hP9 := hP.sub (ws' := [(m0, .inr (11, oX11 ra y3)), (ra 2, .inl (kI, 8, .inl q_told)), (ra 3, .inl (kI, 24, .inl q_kind)), (ra 4, .inl (kI, 24, .inl q_salt)), (ra 8, .inl (kI, 40, .inl q_from)), (ra 9, .inl (kI, 40, .inl q_to)), (ra 10, .inl (kI, 6, .inl q_goal)), (ra 11, .inl (kI, 1019, .inl q_now)), (ra 14, .inl (kI, 12, .inl q_reach))]) [8, 0, 1, 2, 3, 4, 5, 6, 7] rfl
    have hD9 := hD.sub (ws' := [(m0, .inr (11, oX11 ra y3)), (ra 2, .inl (kI, 8, .inl q_told)), (ra 3, .inl (kI, 24, .inl q_kind)), (ra 4, .inl (kI, 24, .inl q_salt)), (ra 8, .inl (kI, 40, .inl q_from)), (ra 9, .inl (kI, 40, .inl q_to)), (ra 10, .inl (kI, 6, .inl q_goal)), (ra 11, .inl (kI, 1019, .inl q_now)), (ra 14, .inl (kI, 12, .inl q_reach))]) [8, 0, 1, 2, 3, 4, 5, 6, 7] (by decide +kernel) rfl
    exact W.iret (v := 0) hx hb hr (fun t ht hW => ⟨⟨0, (), rfl, trivial, y3, q_now, hq4, hq_now, by rw [ht]; exact hP9, hD9⟩, hS.F ht⟩) hS.2.2 dX11_use_32
  have hJ38 : ∀ (n : Nat) (y38_0 : Nat → Int32) (g38_7 : Nat → Int32) (v38_loc3 : Int32) (v38_loc4 : Int32) (H : Heap) (locs : List Loc) (ls : Array Slot), (32 - v38_loc4.toInt).toNat < n → fI lX11 hX11 y38_0 → fI lNow hNow g38_7 → iv 0 2 p0 → iv 0 19 p1 → iv 0 32 v38_loc4 → va_P (dC, dI) vwCl [(m0, .inr (11, oX11 ra y38_0)), (ra 2, .inl (kI, 8, .inl q_told)), (ra 3, .inl (kI, 24, .inl q_kind)), (ra 4, .inl (kI, 24, .inl q_salt)), (ra 8, .inl (kI, 40, .inl q_from)), (ra 9, .inl (kI, 40, .inl q_to)), (ra 10, .inl (kI, 6, .inl q_goal)), (ra 11, .inl (kI, 1019, .inl g38_7)), (ra 14, .inl (kI, 12, .inl q_reach))] H → va_D A [(m0, .inr (11, oX11 ra y38_0)), (ra 2, .inl (kI, 8, .inl q_told)), (ra 3, .inl (kI, 24, .inl q_kind)), (ra 4, .inl (kI, 24, .inl q_salt)), (ra 8, .inl (kI, 40, .inl q_from)), (ra 9, .inl (kI, 40, .inl q_to)), (ra 10, .inl (kI, 6, .inl q_goal)), (ra 11, .inl (kI, 1019, .inl g38_7)), (ra 14, .inl (kI, 12, .inl q_reach))] → va_S A s.heap H locs → lv_has ls 5 [(0, .ref m0), (1, .int p0), (2, .int p1), (3, .int v38_loc3), (4, .int v38_loc4)] → W p l e (headSpec wsX11_use rm_s11_use).room s m args0 below meth c H locs (0) (0) (MQ below (va_Qi (fun (r : Int32) (_ : Unit) => True) (fun _ t => ∃ (x0' : Nat → Int32) (q_now' : Nat → Int32), fI lX11 hX11 x0' ∧ fI lNow hNow q_now' ∧ va_P (dC, dI) vwCl [(m0, .inr (11, oX11 ra x0')), (ra 2, .inl (kI, 8, .inl q_told)), (ra 3, .inl (kI, 24, .inl q_kind)), (ra 4, .inl (kI, 24, .inl q_salt)), (ra 8, .inl (kI, 40, .inl q_from)), (ra 9, .inl (kI, 40, .inl q_to)), (ra 10, .inl (kI, 6, .inl q_goal)), (ra 11, .inl (kI, 1019, .inl q_now')), (ra 14, .inl (kI, 12, .inl q_reach))] t.heap ∧ va_D A [(m0, .inr (11, oX11 ra x0')), (ra 2, .inl (kI, 8, .inl q_told)), (ra 3, .inl (kI, 24, .inl q_kind)), (ra 4, .inl (kI, 24, .inl q_salt)), (ra 8, .inl (kI, 40, .inl q_from)), (ra 9, .inl (kI, 40, .inl q_to)), (ra 10, .inl (kI, 6, .inl q_goal)), (ra 11, .inl (kI, 1019, .inl q_now')), (ra 14, .inl (kI, 12, .inl q_reach))]) A) args0 s 0 0 A) (F0 m 38 ls []) := by
    intro n
    induction n with
    | zero => intro y38_0 g38_7 v38_loc3 v38_loc4 H locs ls hm38; exact absurd hm38 (Nat.not_lt_zero _)
    | succ n ih38 =>
      intro y38_0 g38_7 v38_loc3 v38_loc4 H locs ls hm38 hI38_0 hI38_7 h38_3 h38_4 h38_5 hP hD hS hl
      refine lv_iload hx hb dX11_use_38 (lv_at hl 4 rfl) ?_
      refine lv_bipush (v := 32) hx hb dX11_use_40 (by decide) ?_
      refine lv_icmp_ge (tgt := 69) hx hb dX11_use_42 (by decide) (fun c6 => ?_) (fun c6 => ?_)
      · have b7 : iv 32 32 v38_loc4 := iv_leR c6 (iv_k (by decide) (by decide) : iv 32 32 32) h38_5 (by decide) (by decide)
        refine lv_iload_n hx hb dX11_use_69 rfl (lv_at hl 3 rfl) ?_
        have hP9 := hP.sub (ws' := [(m0, .inr (11, oX11 ra y38_0)), (ra 2, .inl (kI, 8, .inl q_told)), (ra 3, .inl (kI, 24, .inl q_kind)), (ra 4, .inl (kI, 24, .inl q_salt)), (ra 8, .inl (kI, 40, .inl q_from)), (ra 9, .inl (kI, 40, .inl q_to)), (ra 10, .inl (kI, 6, .inl q_goal)), (ra 11, .inl (kI, 1019, .inl g38_7)), (ra 14, .inl (kI, 12, .inl q_reach))]) [0, 1, 2, 3, 4, 5, 6, 7, 8] rfl
        have hD9 := hD.sub (ws' := [(m0, .inr (11, oX11 ra y38_0)), (ra 2, .inl (kI, 8, .inl q_told)), (ra 3, .inl (kI, 24, .inl q_kind)), (ra 4, .inl (kI, 24, .inl q_salt)), (ra 8, .inl (kI, 40, .inl q_from)), (ra 9, .inl (kI, 40, .inl q_to)), (ra 10, .inl (kI, 6, .inl q_goal)), (ra 11, .inl (kI, 1019, .inl g38_7)), (ra 14, .inl (kI, 12, .inl q_reach))]) [0, 1, 2, 3, 4, 5, 6, 7, 8] (by decide +kernel) rfl
        exact W.iret (v := v38_loc3) hx hb hr (fun t ht hW => ⟨⟨v38_loc3, (), rfl, trivial, y38_0, g38_7, hI38_0, hI38_7, by rw [ht]; exact hP9, hD9⟩, hS.F ht⟩) hS.2.2 dX11_use_70
      · have b8 : iv 0 31 v38_loc4 := iv_ltL (Int32.not_le.mp c6) h38_5 (iv_k (by decide) (by decide) : iv 32 32 32) (by decide) (by decide)
        refine lv_aload_n hx hb dX11_use_45 rfl (lv_at hl 0 rfl) ?_
        refine lv_iload hx hb dX11_use_46 (lv_at hl 4 rfl) ?_
        refine lv_iload_n hx hb dX11_use_48 rfl (lv_at hl 1 rfl) ?_
        have hPc := hP.sub (ws' := [(m0, .inr (11, oX11 ra y38_0)), (ra 2, .inl (kI, 8, .inl q_told)), (ra 3, .inl (kI, 24, .inl q_kind)), (ra 4, .inl (kI, 24, .inl q_salt)), (ra 8, .inl (kI, 40, .inl q_from)), (ra 9, .inl (kI, 40, .inl q_to)), (ra 10, .inl (kI, 6, .inl q_goal)), (ra 11, .inl (kI, 1019, .inl g38_7)), (ra 14, .inl (kI, 12, .inl q_reach))]) [0, 1, 2, 3, 4, 5, 6, 7, 8] rfl
        have hDc := hD.sub (ws' := [(m0, .inr (11, oX11 ra y38_0)), (ra 2, .inl (kI, 8, .inl q_told)), (ra 3, .inl (kI, 24, .inl q_kind)), (ra 4, .inl (kI, 24, .inl q_salt)), (ra 8, .inl (kI, 40, .inl q_from)), (ra 9, .inl (kI, 40, .inl q_to)), (ra 10, .inl (kI, 6, .inl q_goal)), (ra 11, .inl (kI, 1019, .inl g38_7)), (ra 14, .inl (kI, 12, .inl q_reach))]) [0, 1, 2, 3, 4, 5, 6, 7, 8] (by decide +kernel) rfl
        have hFc := va_free (wc := [(m0, .inr (11, oX11 ra y38_0)), (ra 2, .inl (kI, 8, .inl q_told)), (ra 3, .inl (kI, 24, .inl q_kind)), (ra 4, .inl (kI, 24, .inl q_salt)), (ra 8, .inl (kI, 40, .inl q_from)), (ra 9, .inl (kI, 40, .inl q_to)), (ra 10, .inl (kI, 6, .inl q_goal)), (ra 11, .inl (kI, 1019, .inl g38_7)), (ra 14, .inl (kI, 12, .inl q_reach))]) hD hS hA [0, 1, 2, 3, 4, 5, 6, 7, 8] rfl
        refine va_callv (va_runV (As := [.int v38_loc4, .int p0]) (rest := []) ⟨hx, hb, hml, hown, hts⟩ (s11_wholeWay l dC dI kB kI kJ kZ kC kS H.size m0 ra y38_0 q_told q_kind q_salt q_from q_to q_goal g38_7 q_reach v38_loc4 p0 (hI38_0) (hq_told) (hq_salt) (hq_from) (hq_to) (hq_goal) (hI38_7) (b8) (h38_3) (hLT)) (cwV 2 hts gX11_use_X11_wholeWay rfl rfl rfl (by decide +kernel) ⟨Nat.le_of_ble_eq_true rfl, Nat.le_of_ble_eq_true rfl⟩) ⟨fun a U g mk q => by obtain ⟨q0, q1, qP, qE, qD⟩ := q; exact ⟨q0, q1, qP, kE_call qE, qD⟩, va_recv hK hP (ci := 11) (q0 := 0) rfl rfl, fun U hU hW => ⟨rfl, by rw [hU], by rw [hU]; exact hPc, kE_warm hW hE, hDc.weaken (fun _ _ _ _ => trivial)⟩⟩ rfl rfl hl.1 rfl (lv_room (Nat.le_of_ble_eq_true rfl)) dX11_use_49 ⟨Nat.le_of_ble_eq_true rfl, Nat.le_of_ble_eq_true rfl⟩) hS (fun q _ h => hFc q h) hFc (fun u t H1 locs ht hvm w10 hB hz1 hk1 hS => ?_)
        obtain ⟨y11, f12, hq13, hq14, hP1, hD1⟩ := hB
        rw [ht] at hP1
        try dsimp only at w10
        obtain ⟨hP, hD⟩ := va_join (wr := []) (w1 := [(m0, .inr (11, oX11 ra y11)), (ra 2, .inl (kI, 8, .inl q_told)), (ra 3, .inl (kI, 24, .inl q_kind)), (ra 4, .inl (kI, 24, .inl q_salt)), (ra 8, .inl (kI, 40, .inl q_from)), (ra 9, .inl (kI, 40, .inl q_to)), (ra 10, .inl (kI, 6, .inl q_goal)), (ra 11, .inl (kI, 1019, .inl f12)), (ra 14, .inl (kI, 12, .inl q_reach))]) hP hD [0, 1, 2, 3, 4, 5, 6, 7, 8] [] rfl rfl (by decide +kernel) (by decide +kernel) hk1 hFc hP1 hD1
        generalize H1 = H at hP hS ⊢
        have hP : va_P (dC, dI) vwCl [(m0, .inr (11, oX11 ra y11)), (ra 2, .inl (kI, 8, .inl q_told)), (ra 3, .inl (kI, 24, .inl q_kind)), (ra 4, .inl (kI, 24, .inl q_salt)), (ra 8, .inl (kI, 40, .inl q_from)), (ra 9, .inl (kI, 40, .inl q_to)), (ra 10, .inl (kI, 6, .inl q_goal)), (ra 11, .inl (kI, 1019, .inl f12)), (ra 14, .inl (kI, 12, .inl q_reach))] H := hP
        have hD : va_D A [(m0, .inr (11, oX11 ra y11)), (ra 2, .inl (kI, 8, .inl q_told)), (ra 3, .inl (kI, 24, .inl q_kind)), (ra 4, .inl (kI, 24, .inl q_salt)), (ra 8, .inl (kI, 40, .inl q_from)), (ra 9, .inl (kI, 40, .inl q_to)), (ra 10, .inl (kI, 6, .inl q_goal)), (ra 11, .inl (kI, 1019, .inl f12)), (ra 14, .inl (kI, 12, .inl q_reach))] := hD
        refine W.widen (k := 0) (n := 0) (Nat.le_of_ble_eq_true rfl) (Nat.le_of_ble_eq_true rfl) ?_
        refine lv_iload_n hx hb dX11_use_52 rfl (lv_at hl 3 rfl) ?_
        refine lv_aload_n hx hb dX11_use_53 rfl (lv_at hl 0 rfl) ?_
        refine va_get (D := (dC, dI)) (ci := 11) (v := .int (y11 19)) (C := RX11) (T := TX11) (N := 61) hx hb hts hin11 hown hK hP 0 rfl rfl 41 (by decide) hw_0 (fun _ h9 => h9) rfl dX11_use_54 ?_
        refine lv_iload_n hx hb dX11_use_57 rfl (lv_at hl 2 rfl) ?_
        refine lv_ishr hx hb dX11_use_58 ?_
        refine lv_topi (fun z15 _ => ?_)
        refine lv_iconst (v := 1) hx hb dX11_use_59 (by decide) ?_
        refine lv_iand hx hb dX11_use_60 ?_
        refine iv_top (a := 0) (b := 1) (iv_and (m := 1) (by decide) (by decide) (by decide)) (fun z16 b17 => ?_)
        refine lv_iadd hx hb dX11_use_61 ?_
        refine lv_topi (fun z18 _ => ?_)
        refine lv_istore_n (lv' := [(3, .int z18), (0, .ref m0), (1, .int p0), (2, .int p1), (4, .int v38_loc4)]) hx hb dX11_use_62 rfl hl (by decide) rfl (fun ls hl => ?_)
        refine lv_iinc (v := v38_loc4 + Int32.ofInt 1) (lv' := [(4, .int (v38_loc4 + Int32.ofInt 1)), (3, .int z18), (0, .ref m0), (1, .int p0), (2, .int p1)]) hx hb dX11_use_63 hl (k := 4) rfl (rfl) (by decide) rfl (fun ls hl => ?_)
        have b19 : iv 1 32 (v38_loc4 + Int32.ofInt 1) := iv_add b8 (iv_k (by decide) (by decide) : iv 1 1 (Int32.ofInt 1)) (by decide) (by decide) (by decide) (by decide)
        refine lv_goto (tgt := 38) hx hb dX11_use_66 (by decide) ?_
        exact ih38 y11 f12 z18 (v38_loc4 + Int32.ofInt 1) _ _ _ (ms_up (c := 1) (d := 0) b8 hm38 (by decide) (iv_inc 1 b8 (by decide) (by decide) (by decide) (by decide)) (by decide) rfl) (hq13) (hq14) (h38_3) (h38_4) ((iv_w b19 (by decide) (by decide))) (hP.sub [0, 1, 2, 3, 4, 5, 6, 7, 8] rfl) (hD.sub [0, 1, 2, 3, 4, 5, 6, 7, 8] (by decide +kernel) rfl) hS (lv_sub hl [2, 3, 4, 1, 0] rfl)
  refine lv_aload_n hx hb dX11_use_0 rfl (lv_at hl 0 rfl) ?_
  refine lv_iconst (v := 0) hx hb dX11_use_1 (by decide) ?_
  refine va_put (D := (dC, dI)) (ci := 11) (v := .int 0) (ty := .int) (C := RX11) (T := TX11) (N := 61) hx hb hts hin11 tyX11 tyX11_ok nmX11 hown hK hP hD hS 0 rfl rfl 2 (by decide) hw_1 (fun _ h9 => h9) rfl (by decide +kernel) rfl rfl (Nat.le_of_ble_eq_true rfl) dX11_use_2 (fun H locs hP hD hS => ?_)
  have hP : va_P (dC, dI) vwCl [(m0, .inr (11, oX11 ra (upd x0 0 0))), (ra 2, .inl (kI, 8, .inl q_told)), (ra 3, .inl (kI, 24, .inl q_kind)), (ra 4, .inl (kI, 24, .inl q_salt)), (ra 8, .inl (kI, 40, .inl q_from)), (ra 9, .inl (kI, 40, .inl q_to)), (ra 10, .inl (kI, 6, .inl q_goal)), (ra 11, .inl (kI, 1019, .inl q_now)), (ra 14, .inl (kI, 12, .inl q_reach))] H := hP
  have hD : va_D A [(m0, .inr (11, oX11 ra (upd x0 0 0))), (ra 2, .inl (kI, 8, .inl q_told)), (ra 3, .inl (kI, 24, .inl q_kind)), (ra 4, .inl (kI, 24, .inl q_salt)), (ra 8, .inl (kI, 40, .inl q_from)), (ra 9, .inl (kI, 40, .inl q_to)), (ra 10, .inl (kI, 6, .inl q_goal)), (ra 11, .inl (kI, 1019, .inl q_now)), (ra 14, .inl (kI, 12, .inl q_reach))] := hD
  refine lv_aload_n hx hb dX11_use_5 rfl (lv_at hl 0 rfl) ?_
  refine lv_iload_n hx hb dX11_use_6 rfl (lv_at hl 1 rfl) ?_
  have hPc := hP.sub (ws' := [(m0, .inr (11, oX11 ra (upd x0 0 0))), (ra 2, .inl (kI, 8, .inl q_told))]) [0, 1] rfl
  have hDc := hD.sub (ws' := [(m0, .inr (11, oX11 ra (upd x0 0 0))), (ra 2, .inl (kI, 8, .inl q_told))]) [0, 1] (by decide +kernel) rfl
  have hFc := va_free (wc := [(m0, .inr (11, oX11 ra (upd x0 0 0))), (ra 2, .inl (kI, 8, .inl q_told))]) hD hS hA [0, 1] rfl
  refine va_calli (va_runV (As := [.int p0]) (rest := []) ⟨hx, hb, hml, hown, hts⟩ (s11_isGoal l dC dI kB kI kJ kZ kC kS H.size m0 ra (upd x0 0 0) q_told p0 ((fI_u hX (k := 0) ((iv_w (iv_k (by decide) (by decide) : iv 0 0 0) (by decide) (by decide))))) (hq_told)) (cwV 1 hts gX11_use_X11_isGoal rfl rfl rfl (by decide +kernel) ⟨Nat.le_of_ble_eq_true rfl, Nat.le_of_ble_eq_true rfl⟩) ⟨fun a U g mk q => by obtain ⟨q0, q1, qP, qE, qD⟩ := q; exact ⟨q0, q1, qP, kE_call qE, qD⟩, va_recv hK hP (ci := 11) (q0 := 0) rfl rfl, fun U hU hW => ⟨rfl, by rw [hU], by rw [hU]; exact hPc, kE_warm hW hE, hDc.weaken (fun _ _ _ _ => trivial)⟩⟩ rfl rfl hl.1 rfl (lv_room (Nat.le_of_ble_eq_true rfl)) dX11_use_7 ⟨Nat.le_of_ble_eq_true rfl, Nat.le_of_ble_eq_true rfl⟩) hS (fun q _ h => hFc q h) hFc (fun r20 u t H1 locs ht hvm w21 hB hz1 hk1 hS => ?_)
  obtain ⟨hP1, hD1⟩ := hB
  rw [ht] at hP1
  try dsimp only at w21
  obtain ⟨hP, hD⟩ := va_join (wr := [(ra 3, .inl (kI, 24, .inl q_kind)), (ra 4, .inl (kI, 24, .inl q_salt)), (ra 8, .inl (kI, 40, .inl q_from)), (ra 9, .inl (kI, 40, .inl q_to)), (ra 10, .inl (kI, 6, .inl q_goal)), (ra 11, .inl (kI, 1019, .inl q_now)), (ra 14, .inl (kI, 12, .inl q_reach))]) (w1 := [(m0, .inr (11, oX11 ra (upd x0 0 0))), (ra 2, .inl (kI, 8, .inl q_told))]) hP hD [0, 1] [2, 3, 4, 5, 6, 7, 8] rfl rfl (by decide +kernel) (by decide +kernel) hk1 hFc hP1 hD1
  generalize H1 = H at hP hS ⊢
  have hP : va_P (dC, dI) vwCl [(ra 3, .inl (kI, 24, .inl q_kind)), (ra 4, .inl (kI, 24, .inl q_salt)), (ra 8, .inl (kI, 40, .inl q_from)), (ra 9, .inl (kI, 40, .inl q_to)), (ra 10, .inl (kI, 6, .inl q_goal)), (ra 11, .inl (kI, 1019, .inl q_now)), (ra 14, .inl (kI, 12, .inl q_reach)), (m0, .inr (11, oX11 ra (upd x0 0 0))), (ra 2, .inl (kI, 8, .inl q_told))] H := hP
  have hD : va_D A [(ra 3, .inl (kI, 24, .inl q_kind)), (ra 4, .inl (kI, 24, .inl q_salt)), (ra 8, .inl (kI, 40, .inl q_from)), (ra 9, .inl (kI, 40, .inl q_to)), (ra 10, .inl (kI, 6, .inl q_goal)), (ra 11, .inl (kI, 1019, .inl q_now)), (ra 14, .inl (kI, 12, .inl q_reach)), (m0, .inr (11, oX11 ra (upd x0 0 0))), (ra 2, .inl (kI, 8, .inl q_told))] := hD
  refine W.widen (k := 0) (n := 0) (Nat.le_of_ble_eq_true rfl) (Nat.le_of_ble_eq_true rfl) ?_
  refine lv_if_eq (tgt := 27) hx hb dX11_use_10 (by decide) (fun c22 => ?_) (fun c22 => ?_)
  · have b23 : iv 0 0 r20 := iv_eqL c22 (iv_k (by decide) (by decide) : iv 0 0 0)
    exact hJ27 (upd x0 0 0) _ _ _ ((fI_u hX (k := 0) ((iv_w (iv_k (by decide) (by decide) : iv 0 0 0) (by decide) (by decide))))) ((iv_k (by decide) (by decide) : iv 0 0 0)) (hP.sub [7, 8, 0, 1, 2, 3, 4, 5, 6] rfl) (hD.sub [7, 8, 0, 1, 2, 3, 4, 5, 6] (by decide +kernel) rfl) hS (lv_sub hl [0, 1, 2] rfl)
  · have b24 : iv 1 1 r20 := iv_neLo c22 w21.1 (iv_k (by decide) (by decide) : iv 0 0 0) (by decide) (by decide)
    have b25 : iv 0 2 p0 := (w21.2).resolve_left (iv_ne b24 (iv_k (by decide) (by decide) : iv 0 0 0) (by decide))
    refine lv_iload_n hx hb dX11_use_13 rfl (lv_at hl 2 rfl) ?_
    refine lv_iconst (v := 0) hx hb dX11_use_14 (by decide) ?_
    refine lv_aload_n hx hb dX11_use_15 rfl (lv_at hl 0 rfl) ?_
    have hPc := hP.sub (ws' := [(m0, .inr (11, oX11 ra (upd x0 0 0))), (ra 2, .inl (kI, 8, .inl q_told))]) [7, 8] rfl
    have hDc := hD.sub (ws' := [(m0, .inr (11, oX11 ra (upd x0 0 0))), (ra 2, .inl (kI, 8, .inl q_told))]) [7, 8] (by decide +kernel) rfl
    have hFc := va_free (wc := [(m0, .inr (11, oX11 ra (upd x0 0 0))), (ra 2, .inl (kI, 8, .inl q_told))]) hD hS hA [7, 8] rfl
    refine va_calli (va_runV (As := []) (rest := [.int 0, .int p1]) ⟨hx, hb, hml, hown, hts⟩ (s11_links l dC dI kB kI kJ kZ kC kS H.size m0 ra (upd x0 0 0) q_told ((fI_u hX (k := 0) ((iv_w (iv_k (by decide) (by decide) : iv 0 0 0) (by decide) (by decide))))) (hq_told)) (cwV 0 hts gX11_use_X11_links rfl rfl rfl (by decide +kernel) ⟨Nat.le_of_ble_eq_true rfl, Nat.le_of_ble_eq_true rfl⟩) ⟨fun a U g mk q => by obtain ⟨q0, q1, qP, qE, qD⟩ := q; exact ⟨q0, q1, qP, kE_call qE, qD⟩, va_recv hK hP (ci := 11) (q0 := 7) rfl rfl, fun U hU hW => ⟨rfl, by rw [hU], by rw [hU]; exact hPc, kE_warm hW hE, hDc.weaken (fun _ _ _ _ => trivial)⟩⟩ rfl rfl hl.1 rfl (lv_room (Nat.le_of_ble_eq_true rfl)) dX11_use_16 ⟨Nat.le_of_ble_eq_true rfl, Nat.le_of_ble_eq_true rfl⟩) hS (fun q _ h => hFc q h) hFc (fun r26 u t H1 locs ht hvm w27 hB hz1 hk1 hS => ?_)
    obtain ⟨hP1, hD1⟩ := hB
    rw [ht] at hP1
    try dsimp only at w27
    obtain ⟨hP, hD⟩ := va_join (wr := [(ra 3, .inl (kI, 24, .inl q_kind)), (ra 4, .inl (kI, 24, .inl q_salt)), (ra 8, .inl (kI, 40, .inl q_from)), (ra 9, .inl (kI, 40, .inl q_to)), (ra 10, .inl (kI, 6, .inl q_goal)), (ra 11, .inl (kI, 1019, .inl q_now)), (ra 14, .inl (kI, 12, .inl q_reach))]) (w1 := [(m0, .inr (11, oX11 ra (upd x0 0 0))), (ra 2, .inl (kI, 8, .inl q_told))]) hP hD [7, 8] [0, 1, 2, 3, 4, 5, 6] rfl rfl (by decide +kernel) (by decide +kernel) hk1 hFc hP1 hD1
    generalize H1 = H at hP hS ⊢
    have hP : va_P (dC, dI) vwCl [(ra 3, .inl (kI, 24, .inl q_kind)), (ra 4, .inl (kI, 24, .inl q_salt)), (ra 8, .inl (kI, 40, .inl q_from)), (ra 9, .inl (kI, 40, .inl q_to)), (ra 10, .inl (kI, 6, .inl q_goal)), (ra 11, .inl (kI, 1019, .inl q_now)), (ra 14, .inl (kI, 12, .inl q_reach)), (m0, .inr (11, oX11 ra (upd x0 0 0))), (ra 2, .inl (kI, 8, .inl q_told))] H := hP
    have hD : va_D A [(ra 3, .inl (kI, 24, .inl q_kind)), (ra 4, .inl (kI, 24, .inl q_salt)), (ra 8, .inl (kI, 40, .inl q_from)), (ra 9, .inl (kI, 40, .inl q_to)), (ra 10, .inl (kI, 6, .inl q_goal)), (ra 11, .inl (kI, 1019, .inl q_now)), (ra 14, .inl (kI, 12, .inl q_reach)), (m0, .inr (11, oX11 ra (upd x0 0 0))), (ra 2, .inl (kI, 8, .inl q_told))] := hD
    refine W.widen (k := 0) (n := 0) (Nat.le_of_ble_eq_true rfl) (Nat.le_of_ble_eq_true rfl) ?_
    subst w27
    refine lv_iconst (v := 1) hx hb dX11_use_19 (by decide) ?_
    refine lv_isub hx hb dX11_use_20 ?_
    refine iv_top (a := (-1)) (b := 19) (iv_sub (hq_told 1 : iv 0 20 (q_told 1)) (iv_k (by decide) (by decide) : iv 1 1 1) (by decide) (by decide) (by decide) (by decide)) (fun z28 b29 => ?_)
    have hPc := hP.sub (ws' := []) [] rfl
    have hDc := hD.sub (ws' := []) [] (by decide +kernel) rfl
    have hFc := va_free (wc := []) hD hS hA [] rfl
    refine va_calli (va_runS (As := [.int p1, .int 0, .int z28]) (rest := []) ⟨hx, hb, hml, hown, hts⟩ (s11_isIn l dC dI kB kI kJ kZ kC kS H.size p1 0 z28) (va_cwS 3 hts gX11_use_X11_isIn rfl rfl rfl (by decide +kernel) ⟨Nat.le_of_ble_eq_true rfl, Nat.le_of_ble_eq_true rfl⟩) ⟨fun a U g mk q => by obtain ⟨q0, q1, qP, qE, qD⟩ := q; exact ⟨q0, q1, qP, kE_call qE, qD⟩, fun U hU hW => ⟨rfl, by rw [hU], by rw [hU]; exact hPc, kE_warm hW hE, hDc.weaken (fun _ _ _ _ => trivial)⟩⟩ rfl rfl hl.1 rfl (lv_room (Nat.le_of_ble_eq_true rfl)) dX11_use_21 ⟨Nat.le_of_ble_eq_true rfl, Nat.le_of_ble_eq_true rfl⟩) hS (fun q _ h => hFc q h) hFc (fun r30 u t H1 locs ht hvm w31 hB hz1 hk1 hS => ?_)
    obtain ⟨hP1, hD1⟩ := hB
    rw [ht] at hP1
    try dsimp only at w31
    obtain ⟨hP, hD⟩ := va_join (wr := [(ra 3, .inl (kI, 24, .inl q_kind)), (ra 4, .inl (kI, 24, .inl q_salt)), (ra 8, .inl (kI, 40, .inl q_from)), (ra 9, .inl (kI, 40, .inl q_to)), (ra 10, .inl (kI, 6, .inl q_goal)), (ra 11, .inl (kI, 1019, .inl q_now)), (ra 14, .inl (kI, 12, .inl q_reach)), (m0, .inr (11, oX11 ra (upd x0 0 0))), (ra 2, .inl (kI, 8, .inl q_told))]) (w1 := []) hP hD [] [0, 1, 2, 3, 4, 5, 6, 7, 8] rfl rfl (by decide +kernel) (by decide +kernel) hk1 hFc hP1 hD1
    generalize H1 = H at hP hS ⊢
    have hP : va_P (dC, dI) vwCl [(ra 3, .inl (kI, 24, .inl q_kind)), (ra 4, .inl (kI, 24, .inl q_salt)), (ra 8, .inl (kI, 40, .inl q_from)), (ra 9, .inl (kI, 40, .inl q_to)), (ra 10, .inl (kI, 6, .inl q_goal)), (ra 11, .inl (kI, 1019, .inl q_now)), (ra 14, .inl (kI, 12, .inl q_reach)), (m0, .inr (11, oX11 ra (upd x0 0 0))), (ra 2, .inl (kI, 8, .inl q_told))] H := hP
    have hD : va_D A [(ra 3, .inl (kI, 24, .inl q_kind)), (ra 4, .inl (kI, 24, .inl q_salt)), (ra 8, .inl (kI, 40, .inl q_from)), (ra 9, .inl (kI, 40, .inl q_to)), (ra 10, .inl (kI, 6, .inl q_goal)), (ra 11, .inl (kI, 1019, .inl q_now)), (ra 14, .inl (kI, 12, .inl q_reach)), (m0, .inr (11, oX11 ra (upd x0 0 0))), (ra 2, .inl (kI, 8, .inl q_told))] := hD
    refine W.widen (k := 0) (n := 0) (Nat.le_of_ble_eq_true rfl) (Nat.le_of_ble_eq_true rfl) ?_
    refine lv_if_ne (tgt := 33) hx hb dX11_use_24 (by decide) (fun c32 => ?_) (fun c32 => ?_)
    · have b33 : iv 1 1 r30 := iv_neLo c32 w31.1 (iv_k (by decide) (by decide) : iv 0 0 0) (by decide) (by decide)
      have hr34 := (w31.2).resolve_left (iv_ne b33 (iv_k (by decide) (by decide) : iv 0 0 0) (by decide))
      have b35 : iv 0 19 p1 := iv_cap (in_iv hr34 (iv_k (by decide) (by decide) : iv 0 0 0) b29) (iv_t p1) (by decide) (by decide)
      refine lv_iconst (v := 0) hx hb dX11_use_33 (by decide) ?_
      refine lv_istore_n (lv' := [(3, .int 0), (0, .ref m0), (1, .int p0), (2, .int p1)]) hx hb dX11_use_34 rfl hl (by decide) rfl (fun ls hl => ?_)
      refine lv_iconst (v := 0) hx hb dX11_use_35 (by decide) ?_
      refine lv_istore (lv' := [(4, .int 0), (3, .int 0), (0, .ref m0), (1, .int p0), (2, .int p1)]) hx hb dX11_use_36 hl (by decide) rfl (fun ls hl => ?_)
      exact hJ38 _ (upd x0 0 0) q_now 0 0 _ _ _ (Nat.lt_succ_self _) ((fI_u hX (k := 0) ((iv_w (iv_k (by decide) (by decide) : iv 0 0 0) (by decide) (by decide))))) (hq_now) (b25) (b35) ((iv_w (iv_k (by decide) (by decide) : iv 0 0 0) (by decide) (by decide))) (hP.sub [7, 8, 0, 1, 2, 3, 4, 5, 6] rfl) (hD.sub [7, 8, 0, 1, 2, 3, 4, 5, 6] (by decide +kernel) rfl) hS (lv_sub hl [2, 3, 4, 1, 0] rfl)
    · have b36 : iv 0 0 r30 := iv_eqL c32 (iv_k (by decide) (by decide) : iv 0 0 0)
      exact hJ27 (upd x0 0 0) _ _ _ ((fI_u hX (k := 0) ((iv_w (iv_k (by decide) (by decide) : iv 0 0 0) (by decide) (by decide))))) ((iv_k (by decide) (by decide) : iv 0 0 0)) (hP.sub [7, 8, 0, 1, 2, 3, 4, 5, 6] rfl) (hD.sub [7, 8, 0, 1, 2, 3, 4, 5, 6] (by decide +kernel) rfl) hS (lv_sub hl [0, 1, 2] rfl)
def rm_s11_cover : Room := { frames := 4, cells := 0, slots := 0, locals := 102 }
set_option maxHeartbeats 4000000 in
set_option maxRecDepth 100000 in
theorem s11_cover (l : Launch) (dC : Nat → ClassId) (dI : Nat → Nat → Nat) (kB kI kJ kZ kC kS : ClassId) (sz : Nat) (m0 : Nat) (ra : Nat → Nat) (x0 : Nat → Int32) (q_told : Nat → Int32) (q_kind : Nat → Int32) (q_salt : Nat → Int32) (q_from : Nat → Int32) (q_to : Nat → Int32) (q_goal : Nat → Int32) (q_now : Nat → Int32) (q_reach : Nat → Int32) (p0 : Int32) (hX : fI lX11 hX11 x0) (hq_told : fI lTold hTold q_told) (hq_salt : fI (fun _ => 0) (fun _ => 15) q_salt) (hq_from : fI (fun _ => 0) (fun _ => 11) q_from) (hq_to : fI (fun _ => 0) (fun _ => 11) q_to) (hq_goal : fI (fun _ => 0) (fun _ => 11) q_goal) (hq_now : fI lNow hNow q_now) (hLT : ∀ j : Nat, (j : Int) < (q_told 1).toInt → (q_from j).toInt < (q_to j).toInt) : Met l yX11_cover wsX11_cover rm_s11_cover (va_Pc [.ref m0, .int p0] (fun U => U.heap.size = sz ∧ va_P (dC, dI) vwCl [(m0, .inr (11, oX11 ra x0)), (ra 2, .inl (kI, 8, .inl q_told)), (ra 3, .inl (kI, 24, .inl q_kind)), (ra 4, .inl (kI, 24, .inl q_salt)), (ra 8, .inl (kI, 40, .inl q_from)), (ra 9, .inl (kI, 40, .inl q_to)), (ra 10, .inl (kI, 6, .inl q_goal)), (ra 11, .inl (kI, 1019, .inl q_now)), (ra 14, .inl (kI, 12, .inl q_reach))] U.heap ∧ kE dC dI kB kI kJ kZ kC kS U ∧ va_D (fun _ => True) [(m0, .inr (11, oX11 ra x0)), (ra 2, .inl (kI, 8, .inl q_told)), (ra 3, .inl (kI, 24, .inl q_kind)), (ra 4, .inl (kI, 24, .inl q_salt)), (ra 8, .inl (kI, 40, .inl q_from)), (ra 9, .inl (kI, 40, .inl q_to)), (ra 10, .inl (kI, 6, .inl q_goal)), (ra 11, .inl (kI, 1019, .inl q_now)), (ra 14, .inl (kI, 12, .inl q_reach))])) (va_Qi (fun (r : Int32) (_ : Unit) => iv (-1) 32 r) (fun _ t => ∃ (x0' : Nat → Int32) (q_now' : Nat → Int32), fI lX11 hX11 x0' ∧ fI lNow hNow q_now' ∧ va_P (dC, dI) vwCl [(m0, .inr (11, oX11 ra x0')), (ra 2, .inl (kI, 8, .inl q_told)), (ra 3, .inl (kI, 24, .inl q_kind)), (ra 4, .inl (kI, 24, .inl q_salt)), (ra 8, .inl (kI, 40, .inl q_from)), (ra 9, .inl (kI, 40, .inl q_to)), (ra 10, .inl (kI, 6, .inl q_goal)), (ra 11, .inl (kI, 1019, .inl q_now')), (ra 14, .inl (kI, 12, .inl q_reach))] t.heap ∧ va_D (va_A [(m0, .inr (11, oX11 ra x0)), (ra 2, .inl (kI, 8, .inl q_told)), (ra 3, .inl (kI, 24, .inl q_kind)), (ra 4, .inl (kI, 24, .inl q_salt)), (ra 8, .inl (kI, 40, .inl q_from)), (ra 9, .inl (kI, 40, .inl q_to)), (ra 10, .inl (kI, 6, .inl q_goal)), (ra 11, .inl (kI, 1019, .inl q_now)), (ra 14, .inl (kI, 12, .inl q_reach))] sz) [(m0, .inr (11, oX11 ra x0')), (ra 2, .inl (kI, 8, .inl q_told)), (ra 3, .inl (kI, 24, .inl q_kind)), (ra 4, .inl (kI, 24, .inl q_salt)), (ra 8, .inl (kI, 40, .inl q_from)), (ra 9, .inl (kI, 40, .inl q_to)), (ra 10, .inl (kI, 6, .inl q_goal)), (ra 11, .inl (kI, 1019, .inl q_now')), (ra 14, .inl (kI, 12, .inl q_reach))]) (va_A [(m0, .inr (11, oX11 ra x0)), (ra 2, .inl (kI, 8, .inl q_told)), (ra 3, .inl (kI, 24, .inl q_kind)), (ra 4, .inl (kI, 24, .inl q_salt)), (ra 8, .inl (kI, 40, .inl q_from)), (ra 9, .inl (kI, 40, .inl q_to)), (ra 10, .inl (kI, 6, .inl q_goal)), (ra 11, .inl (kI, 1019, .inl q_now)), (ra 14, .inl (kI, 12, .inl q_reach))] sz)) 0 0 (va_A [(m0, .inr (11, oX11 ra x0)), (ra 2, .inl (kI, 8, .inl q_told)), (ra 3, .inl (kI, 24, .inl q_kind)), (ra 4, .inl (kI, 24, .inl q_salt)), (ra 8, .inl (kI, 40, .inl q_from)), (ra 9, .inl (kI, 40, .inl q_to)), (ra 10, .inl (kI, 6, .inl q_goal)), (ra 11, .inl (kI, 1019, .inl q_now)), (ra 14, .inl (kI, 12, .inl q_reach))] sz) := by
  refine Met.ofW (cc := cX11_cover) (maxL := 4) (ret := (some .int)) (by decide) rfl ?_
  intro p e s m args0 below meth c s₁ B hml hv
  obtain ⟨hargs, hsz, hP, hE, hD0⟩ := hv
  have hx := B.exec
  have hb := B.bytes
  have hr := B.returns
  have hts := atoms_spec (ws := wsX11_cover) B.pre
  have hown : s.vm.findClass RX11 = some m.cls := findClass_of_methodNamed B.named
  have hlocks := B.notSynchronized
  have hK := hE.1
  have hin11 : ∀ w ∈ wsX110, w ∈ wsX11_cover := fun _ h9 => List.mem_cons_of_mem _ (List.mem_append_right _ h9)
  have hw_0 := hts (.fieldLink RX11 440 "PathProberModel" "wayLinks" "I") (List.mem_of_getElem? (i := 5) (by decide +kernel))
  have hw_1 := hts (.fieldLink RX11 73 "PathProberModel" "reach" "[I") (List.mem_of_getElem? (i := 2) (by decide +kernel))
  have hw_2 := hts (.fieldLink RX11 53 "PathProberModel" "from" "[I") (List.mem_of_getElem? (i := 3) (by decide +kernel))
  have hw_3 := hts (.fieldLink RX11 58 "PathProberModel" "goal" "[I") (List.mem_of_getElem? (i := 4) (by decide +kernel))
  have hw_4 := hts (.fieldLink RX11 142 "PathProberModel" "code" "I") (List.mem_of_getElem? (i := 1) (by decide +kernel))
  subst hsz
  have hD := hD0.self (sz := s.heap.size)
  generalize hAe : va_A [(m0, .inr (11, oX11 ra x0)), (ra 2, .inl (kI, 8, .inl q_told)), (ra 3, .inl (kI, 24, .inl q_kind)), (ra 4, .inl (kI, 24, .inl q_salt)), (ra 8, .inl (kI, 40, .inl q_from)), (ra 9, .inl (kI, 40, .inl q_to)), (ra 10, .inl (kI, 6, .inl q_goal)), (ra 11, .inl (kI, 1019, .inl q_now)), (ra 14, .inl (kI, 12, .inl q_reach))] s.heap.size = A at hD ⊢
  have hA : ∀ q : Nat, s.heap.size ≤ q → A q := fun q h => by rw [← hAe]; exact Or.inr h
  have hS : va_S A s.heap s.heap [] := va_S.rf
  have hP : va_P (dC, dI) vwCl [(m0, .inr (11, oX11 ra x0)), (ra 2, .inl (kI, 8, .inl q_told)), (ra 3, .inl (kI, 24, .inl q_kind)), (ra 4, .inl (kI, 24, .inl q_salt)), (ra 8, .inl (kI, 40, .inl q_from)), (ra 9, .inl (kI, 40, .inl q_to)), (ra 10, .inl (kI, 6, .inl q_goal)), (ra 11, .inl (kI, 1019, .inl q_now)), (ra 14, .inl (kI, 12, .inl q_reach))] s.heap := hP
  have hl := lv_entry ([.ref m0, .int p0]) (n := 4) (Nat.le_of_ble_eq_true rfl)
  have hla : entryFrame m args0 4 = entryFrame m ([.ref m0, .int p0] : List Value).toArray 4 := by rw [hargs]
  rw [hla, lg_entry_eq]
  generalize (lg_sl ([.ref m0, .int p0]) ++ List.replicate (4 - (lg_sl ([.ref m0, .int p0])).length) Slot.unset).toArray = ls at hl ⊢
  have hl : lv_has ls 4 [(0, .ref m0), (1, .int p0)] := hl
  have hJ125 : ∀ (y125_0 : Nat → Int32) (g125_7 : Nat → Int32) (v125_loc2 : Int32) (v125_loc3 : Int32) (H : Heap) (locs : List Loc) (ls : Array Slot), fI lX11 hX11 y125_0 → fI lNow hNow g125_7 → iv 0 2 p0 → iv 0 32 v125_loc3 → va_P (dC, dI) vwCl [(m0, .inr (11, oX11 ra y125_0)), (ra 2, .inl (kI, 8, .inl q_told)), (ra 3, .inl (kI, 24, .inl q_kind)), (ra 4, .inl (kI, 24, .inl q_salt)), (ra 8, .inl (kI, 40, .inl q_from)), (ra 9, .inl (kI, 40, .inl q_to)), (ra 10, .inl (kI, 6, .inl q_goal)), (ra 11, .inl (kI, 1019, .inl g125_7)), (ra 14, .inl (kI, 12, .inl q_reach))] H → va_D A [(m0, .inr (11, oX11 ra y125_0)), (ra 2, .inl (kI, 8, .inl q_told)), (ra 3, .inl (kI, 24, .inl q_kind)), (ra 4, .inl (kI, 24, .inl q_salt)), (ra 8, .inl (kI, 40, .inl q_from)), (ra 9, .inl (kI, 40, .inl q_to)), (ra 10, .inl (kI, 6, .inl q_goal)), (ra 11, .inl (kI, 1019, .inl g125_7)), (ra 14, .inl (kI, 12, .inl q_reach))] → va_S A s.heap H locs → lv_has ls 4 [(0, .ref m0), (1, .int p0), (2, .int v125_loc2), (3, .int v125_loc3)] → W p l e (headSpec wsX11_cover rm_s11_cover).room s m args0 below meth c H locs (0) (0) (MQ below (va_Qi (fun (r : Int32) (_ : Unit) => iv (-1) 32 r) (fun _ t => ∃ (x0' : Nat → Int32) (q_now' : Nat → Int32), fI lX11 hX11 x0' ∧ fI lNow hNow q_now' ∧ va_P (dC, dI) vwCl [(m0, .inr (11, oX11 ra x0')), (ra 2, .inl (kI, 8, .inl q_told)), (ra 3, .inl (kI, 24, .inl q_kind)), (ra 4, .inl (kI, 24, .inl q_salt)), (ra 8, .inl (kI, 40, .inl q_from)), (ra 9, .inl (kI, 40, .inl q_to)), (ra 10, .inl (kI, 6, .inl q_goal)), (ra 11, .inl (kI, 1019, .inl q_now')), (ra 14, .inl (kI, 12, .inl q_reach))] t.heap ∧ va_D A [(m0, .inr (11, oX11 ra x0')), (ra 2, .inl (kI, 8, .inl q_told)), (ra 3, .inl (kI, 24, .inl q_kind)), (ra 4, .inl (kI, 24, .inl q_salt)), (ra 8, .inl (kI, 40, .inl q_from)), (ra 9, .inl (kI, 40, .inl q_to)), (ra 10, .inl (kI, 6, .inl q_goal)), (ra 11, .inl (kI, 1019, .inl q_now')), (ra 14, .inl (kI, 12, .inl q_reach))]) A) args0 s 0 0 A) (F0 m 125 ls []) := by
    intro y125_0 g125_7 v125_loc2 v125_loc3 H locs ls hI125_0 hI125_7 h125_3 h125_4 hP hD hS hl
    refine lv_iload_n hx hb dX11_cover_125 rfl (lv_at hl 2 rfl) ?_
    refine lv_if_ne (tgt := 133) hx hb dX11_cover_126 (by decide) (fun c1 => ?_) (fun c1 => ?_)
    · refine lv_iconst (v := (-1)) hx hb dX11_cover_133 (by decide) ?_
      have hP9 := hP.sub (ws' := [(m0, .inr (11, oX11 ra y125_0)), (ra 2, .inl (kI, 8, .inl q_told)), (ra 3, .inl (kI, 24, .inl q_kind)), (ra 4, .inl (kI, 24, .inl q_salt)), (ra 8, .inl (kI, 40, .inl q_from)), (ra 9, .inl (kI, 40, .inl q_to)), (ra 10, .inl (kI, 6, .inl q_goal)), (ra 11, .inl (kI, 1019, .inl g125_7)), (ra 14, .inl (kI, 12, .inl q_reach))]) [0, 1, 2, 3, 4, 5, 6, 7, 8] rfl
      have hD9 := hD.sub (ws' := [(m0, .inr (11, oX11 ra y125_0)), (ra 2, .inl (kI, 8, .inl q_told)), (ra 3, .inl (kI, 24, .inl q_kind)), (ra 4, .inl (kI, 24, .inl q_salt)), (ra 8, .inl (kI, 40, .inl q_from)), (ra 9, .inl (kI, 40, .inl q_to)), (ra 10, .inl (kI, 6, .inl q_goal)), (ra 11, .inl (kI, 1019, .inl g125_7)), (ra 14, .inl (kI, 12, .inl q_reach))]) [0, 1, 2, 3, 4, 5, 6, 7, 8] (by decide +kernel) rfl
      exact W.iret (v := (-1)) hx hb hr (fun t ht hW => ⟨⟨(-1), (), rfl, (iv_w (iv_k (by decide) (by decide) : iv (-1) (-1) (-1)) (by decide) (by decide)), y125_0, g125_7, hI125_0, hI125_7, by rw [ht]; exact hP9, hD9⟩, hS.F ht⟩) hS.2.2 dX11_cover_134
    · have b2 : iv 0 0 v125_loc2 := iv_eqL c1 (iv_k (by decide) (by decide) : iv 0 0 0)
      refine lv_iconst (v := 0) hx hb dX11_cover_129 (by decide) ?_
      refine lv_goto (tgt := 134) hx hb dX11_cover_130 (by decide) ?_
      have hP9 := hP.sub (ws' := [(m0, .inr (11, oX11 ra y125_0)), (ra 2, .inl (kI, 8, .inl q_told)), (ra 3, .inl (kI, 24, .inl q_kind)), (ra 4, .inl (kI, 24, .inl q_salt)), (ra 8, .inl (kI, 40, .inl q_from)), (ra 9, .inl (kI, 40, .inl q_to)), (ra 10, .inl (kI, 6, .inl q_goal)), (ra 11, .inl (kI, 1019, .inl g125_7)), (ra 14, .inl (kI, 12, .inl q_reach))]) [0, 1, 2, 3, 4, 5, 6, 7, 8] rfl
      have hD9 := hD.sub (ws' := [(m0, .inr (11, oX11 ra y125_0)), (ra 2, .inl (kI, 8, .inl q_told)), (ra 3, .inl (kI, 24, .inl q_kind)), (ra 4, .inl (kI, 24, .inl q_salt)), (ra 8, .inl (kI, 40, .inl q_from)), (ra 9, .inl (kI, 40, .inl q_to)), (ra 10, .inl (kI, 6, .inl q_goal)), (ra 11, .inl (kI, 1019, .inl g125_7)), (ra 14, .inl (kI, 12, .inl q_reach))]) [0, 1, 2, 3, 4, 5, 6, 7, 8] (by decide +kernel) rfl
      exact W.iret (v := 0) hx hb hr (fun t ht hW => ⟨⟨0, (), rfl, (iv_w (iv_k (by decide) (by decide) : iv 0 0 0) (by decide) (by decide)), y125_0, g125_7, hI125_0, hI125_7, by rw [ht]; exact hP9, hD9⟩, hS.F ht⟩) hS.2.2 dX11_cover_134
  have hJ86 : ∀ (n : Nat) (y86_0 : Nat → Int32) (g86_7 : Nat → Int32) (v86_loc2 : Int32) (v86_loc3 : Int32) (H : Heap) (locs : List Loc) (ls : Array Slot), (32 - v86_loc3.toInt).toNat < n → fI lX11 hX11 y86_0 → fI lNow hNow g86_7 → iv 0 2 p0 → iv 0 32 v86_loc3 → va_P (dC, dI) vwCl [(m0, .inr (11, oX11 ra y86_0)), (ra 2, .inl (kI, 8, .inl q_told)), (ra 3, .inl (kI, 24, .inl q_kind)), (ra 4, .inl (kI, 24, .inl q_salt)), (ra 8, .inl (kI, 40, .inl q_from)), (ra 9, .inl (kI, 40, .inl q_to)), (ra 10, .inl (kI, 6, .inl q_goal)), (ra 11, .inl (kI, 1019, .inl g86_7)), (ra 14, .inl (kI, 12, .inl q_reach))] H → va_D A [(m0, .inr (11, oX11 ra y86_0)), (ra 2, .inl (kI, 8, .inl q_told)), (ra 3, .inl (kI, 24, .inl q_kind)), (ra 4, .inl (kI, 24, .inl q_salt)), (ra 8, .inl (kI, 40, .inl q_from)), (ra 9, .inl (kI, 40, .inl q_to)), (ra 10, .inl (kI, 6, .inl q_goal)), (ra 11, .inl (kI, 1019, .inl g86_7)), (ra 14, .inl (kI, 12, .inl q_reach))] → va_S A s.heap H locs → lv_has ls 4 [(0, .ref m0), (1, .int p0), (2, .int v86_loc2), (3, .int v86_loc3)] → W p l e (headSpec wsX11_cover rm_s11_cover).room s m args0 below meth c H locs (0) (0) (MQ below (va_Qi (fun (r : Int32) (_ : Unit) => iv (-1) 32 r) (fun _ t => ∃ (x0' : Nat → Int32) (q_now' : Nat → Int32), fI lX11 hX11 x0' ∧ fI lNow hNow q_now' ∧ va_P (dC, dI) vwCl [(m0, .inr (11, oX11 ra x0')), (ra 2, .inl (kI, 8, .inl q_told)), (ra 3, .inl (kI, 24, .inl q_kind)), (ra 4, .inl (kI, 24, .inl q_salt)), (ra 8, .inl (kI, 40, .inl q_from)), (ra 9, .inl (kI, 40, .inl q_to)), (ra 10, .inl (kI, 6, .inl q_goal)), (ra 11, .inl (kI, 1019, .inl q_now')), (ra 14, .inl (kI, 12, .inl q_reach))] t.heap ∧ va_D A [(m0, .inr (11, oX11 ra x0')), (ra 2, .inl (kI, 8, .inl q_told)), (ra 3, .inl (kI, 24, .inl q_kind)), (ra 4, .inl (kI, 24, .inl q_salt)), (ra 8, .inl (kI, 40, .inl q_from)), (ra 9, .inl (kI, 40, .inl q_to)), (ra 10, .inl (kI, 6, .inl q_goal)), (ra 11, .inl (kI, 1019, .inl q_now')), (ra 14, .inl (kI, 12, .inl q_reach))]) A) args0 s 0 0 A) (F0 m 86 ls []) := by
    intro n
    induction n with
    | zero => intro y86_0 g86_7 v86_loc2 v86_loc3 H locs ls hm86; exact absurd hm86 (Nat.not_lt_zero _)
    | succ n ih86 =>
      intro y86_0 g86_7 v86_loc2 v86_loc3 H locs ls hm86 hI86_0 hI86_7 h86_3 h86_4 hP hD hS hl
      refine lv_iload_n hx hb dX11_cover_86 rfl (lv_at hl 3 rfl) ?_
      refine lv_bipush (v := 32) hx hb dX11_cover_87 (by decide) ?_
      refine lv_icmp_ge (tgt := 125) hx hb dX11_cover_89 (by decide) (fun c3 => ?_) (fun c3 => ?_)
      · have b4 : iv 32 32 v86_loc3 := iv_leR c3 (iv_k (by decide) (by decide) : iv 32 32 32) h86_4 (by decide) (by decide)
        exact hJ125 y86_0 g86_7 v86_loc2 v86_loc3 _ _ _ (hI86_0) (hI86_7) (h86_3) ((iv_w b4 (by decide) (by decide))) (hP.sub [0, 1, 2, 3, 4, 5, 6, 7, 8] rfl) (hD.sub [0, 1, 2, 3, 4, 5, 6, 7, 8] (by decide +kernel) rfl) hS (lv_sub hl [0, 1, 2, 3] rfl)
      · have b5 : iv 0 31 v86_loc3 := iv_ltL (Int32.not_le.mp c3) h86_4 (iv_k (by decide) (by decide) : iv 32 32 32) (by decide) (by decide)
        refine lv_iload_n hx hb dX11_cover_92 rfl (lv_at hl 2 rfl) ?_
        refine lv_if_eq (tgt := 125) hx hb dX11_cover_93 (by decide) (fun c6 => ?_) (fun c6 => ?_)
        · have b7 : iv 0 0 v86_loc2 := iv_eqL c6 (iv_k (by decide) (by decide) : iv 0 0 0)
          exact hJ125 y86_0 g86_7 v86_loc2 v86_loc3 _ _ _ (hI86_0) (hI86_7) (h86_3) ((iv_w b5 (by decide) (by decide))) (hP.sub [0, 1, 2, 3, 4, 5, 6, 7, 8] rfl) (hD.sub [0, 1, 2, 3, 4, 5, 6, 7, 8] (by decide +kernel) rfl) hS (lv_sub hl [0, 1, 2, 3] rfl)
        · refine lv_aload_n hx hb dX11_cover_96 rfl (lv_at hl 0 rfl) ?_
          refine lv_iload_n hx hb dX11_cover_97 rfl (lv_at hl 3 rfl) ?_
          refine lv_iload_n hx hb dX11_cover_98 rfl (lv_at hl 1 rfl) ?_
          have hPc := hP.sub (ws' := [(m0, .inr (11, oX11 ra y86_0)), (ra 2, .inl (kI, 8, .inl q_told)), (ra 3, .inl (kI, 24, .inl q_kind)), (ra 4, .inl (kI, 24, .inl q_salt)), (ra 8, .inl (kI, 40, .inl q_from)), (ra 9, .inl (kI, 40, .inl q_to)), (ra 10, .inl (kI, 6, .inl q_goal)), (ra 11, .inl (kI, 1019, .inl g86_7)), (ra 14, .inl (kI, 12, .inl q_reach))]) [0, 1, 2, 3, 4, 5, 6, 7, 8] rfl
          have hDc := hD.sub (ws' := [(m0, .inr (11, oX11 ra y86_0)), (ra 2, .inl (kI, 8, .inl q_told)), (ra 3, .inl (kI, 24, .inl q_kind)), (ra 4, .inl (kI, 24, .inl q_salt)), (ra 8, .inl (kI, 40, .inl q_from)), (ra 9, .inl (kI, 40, .inl q_to)), (ra 10, .inl (kI, 6, .inl q_goal)), (ra 11, .inl (kI, 1019, .inl g86_7)), (ra 14, .inl (kI, 12, .inl q_reach))]) [0, 1, 2, 3, 4, 5, 6, 7, 8] (by decide +kernel) rfl
          have hFc := va_free (wc := [(m0, .inr (11, oX11 ra y86_0)), (ra 2, .inl (kI, 8, .inl q_told)), (ra 3, .inl (kI, 24, .inl q_kind)), (ra 4, .inl (kI, 24, .inl q_salt)), (ra 8, .inl (kI, 40, .inl q_from)), (ra 9, .inl (kI, 40, .inl q_to)), (ra 10, .inl (kI, 6, .inl q_goal)), (ra 11, .inl (kI, 1019, .inl g86_7)), (ra 14, .inl (kI, 12, .inl q_reach))]) hD hS hA [0, 1, 2, 3, 4, 5, 6, 7, 8] rfl
          refine va_callv (va_runV (As := [.int v86_loc3, .int p0]) (rest := []) ⟨hx, hb, hml, hown, hts⟩ (s11_wholeWay l dC dI kB kI kJ kZ kC kS H.size m0 ra y86_0 q_told q_kind q_salt q_from q_to q_goal g86_7 q_reach v86_loc3 p0 (hI86_0) (hq_told) (hq_salt) (hq_from) (hq_to) (hq_goal) (hI86_7) (b5) (h86_3) (hLT)) (cwV 2 hts gX11_cover_X11_wholeWay rfl rfl rfl (by decide +kernel) ⟨Nat.le_of_ble_eq_true rfl, Nat.le_of_ble_eq_true rfl⟩) ⟨fun a U g mk q => by obtain ⟨q0, q1, qP, qE, qD⟩ := q; exact ⟨q0, q1, qP, kE_call qE, qD⟩, va_recv hK hP (ci := 11) (q0 := 0) rfl rfl, fun U hU hW => ⟨rfl, by rw [hU], by rw [hU]; exact hPc, kE_warm hW hE, hDc.weaken (fun _ _ _ _ => trivial)⟩⟩ rfl rfl hl.1 rfl (lv_room (Nat.le_of_ble_eq_true rfl)) dX11_cover_99 ⟨Nat.le_of_ble_eq_true rfl, Nat.le_of_ble_eq_true rfl⟩) hS (fun q _ h => hFc q h) hFc (fun u t H1 locs ht hvm w9 hB hz1 hk1 hS => ?_)
          obtain ⟨y10, f11, hq12, hq13, hP1, hD1⟩ := hB
          rw [ht] at hP1
          try dsimp only at w9
          obtain ⟨hP, hD⟩ := va_join (wr := []) (w1 := [(m0, .inr (11, oX11 ra y10)), (ra 2, .inl (kI, 8, .inl q_told)), (ra 3, .inl (kI, 24, .inl q_kind)), (ra 4, .inl (kI, 24, .inl q_salt)), (ra 8, .inl (kI, 40, .inl q_from)), (ra 9, .inl (kI, 40, .inl q_to)), (ra 10, .inl (kI, 6, .inl q_goal)), (ra 11, .inl (kI, 1019, .inl f11)), (ra 14, .inl (kI, 12, .inl q_reach))]) hP hD [0, 1, 2, 3, 4, 5, 6, 7, 8] [] rfl rfl (by decide +kernel) (by decide +kernel) hk1 hFc hP1 hD1
          generalize H1 = H at hP hS ⊢
          have hP : va_P (dC, dI) vwCl [(m0, .inr (11, oX11 ra y10)), (ra 2, .inl (kI, 8, .inl q_told)), (ra 3, .inl (kI, 24, .inl q_kind)), (ra 4, .inl (kI, 24, .inl q_salt)), (ra 8, .inl (kI, 40, .inl q_from)), (ra 9, .inl (kI, 40, .inl q_to)), (ra 10, .inl (kI, 6, .inl q_goal)), (ra 11, .inl (kI, 1019, .inl f11)), (ra 14, .inl (kI, 12, .inl q_reach))] H := hP
          have hD : va_D A [(m0, .inr (11, oX11 ra y10)), (ra 2, .inl (kI, 8, .inl q_told)), (ra 3, .inl (kI, 24, .inl q_kind)), (ra 4, .inl (kI, 24, .inl q_salt)), (ra 8, .inl (kI, 40, .inl q_from)), (ra 9, .inl (kI, 40, .inl q_to)), (ra 10, .inl (kI, 6, .inl q_goal)), (ra 11, .inl (kI, 1019, .inl f11)), (ra 14, .inl (kI, 12, .inl q_reach))] := hD
          refine W.widen (k := 0) (n := 0) (Nat.le_of_ble_eq_true rfl) (Nat.le_of_ble_eq_true rfl) ?_
          refine lv_iload_n hx hb dX11_cover_102 rfl (lv_at hl 2 rfl) ?_
          refine lv_aload_n hx hb dX11_cover_103 rfl (lv_at hl 0 rfl) ?_
          refine va_get (D := (dC, dI)) (ci := 11) (v := .int (y10 19)) (C := RX11) (T := TX11) (N := 61) hx hb hts hin11 hown hK hP 0 rfl rfl 41 (by decide) hw_0 (fun _ h9 => h9) rfl dX11_cover_104 ?_
          refine lv_iconst (v := (-1)) hx hb dX11_cover_107 (by decide) ?_
          refine lv_ixor hx hb dX11_cover_108 ?_
          refine lv_topi (fun z14 _ => ?_)
          refine lv_iand hx hb dX11_cover_109 ?_
          refine lv_topi (fun z15 _ => ?_)
          refine lv_istore_n (lv' := [(2, .int z15), (0, .ref m0), (1, .int p0), (3, .int v86_loc3)]) hx hb dX11_cover_110 rfl hl (by decide) rfl (fun ls hl => ?_)
          refine lv_iload_n hx hb dX11_cover_111 rfl (lv_at hl 0 rfl) ?_
          refine lv_if_ne (tgt := 119) hx hb dX11_cover_112 (by decide) (fun c16 => ?_) (fun c16 => ?_)
          · refine lv_iinc (v := v86_loc3 + Int32.ofInt 1) (lv' := [(3, .int (v86_loc3 + Int32.ofInt 1)), (2, .int z15), (0, .ref m0), (1, .int p0)]) hx hb dX11_cover_119 hl (k := 3) rfl (rfl) (by decide) rfl (fun ls hl => ?_)
            have b17 : iv 1 32 (v86_loc3 + Int32.ofInt 1) := iv_add b5 (iv_k (by decide) (by decide) : iv 1 1 (Int32.ofInt 1)) (by decide) (by decide) (by decide) (by decide)
            refine lv_goto (tgt := 86) hx hb dX11_cover_122 (by decide) ?_
            exact ih86 y10 f11 z15 (v86_loc3 + Int32.ofInt 1) _ _ _ (ms_up (c := 1) (d := 0) b5 hm86 (by decide) (iv_inc 1 b5 (by decide) (by decide) (by decide) (by decide)) (by decide) rfl) (hq12) (hq13) (h86_3) ((iv_w b17 (by decide) (by decide))) (hP.sub [0, 1, 2, 3, 4, 5, 6, 7, 8] rfl) (hD.sub [0, 1, 2, 3, 4, 5, 6, 7, 8] (by decide +kernel) rfl) hS (lv_sub hl [2, 3, 1, 0] rfl)
          · have b18 : iv 0 0 z15 := iv_eqL c16 (iv_k (by decide) (by decide) : iv 0 0 0)
            refine lv_iload_n hx hb dX11_cover_115 rfl (lv_at hl 3 rfl) ?_
            refine lv_iconst (v := 1) hx hb dX11_cover_116 (by decide) ?_
            refine lv_iadd hx hb dX11_cover_117 ?_
            refine iv_top (a := 1) (b := 32) (iv_add b5 (iv_k (by decide) (by decide) : iv 1 1 1) (by decide) (by decide) (by decide) (by decide)) (fun z19 b20 => ?_)
            have hP9 := hP.sub (ws' := [(m0, .inr (11, oX11 ra y10)), (ra 2, .inl (kI, 8, .inl q_told)), (ra 3, .inl (kI, 24, .inl q_kind)), (ra 4, .inl (kI, 24, .inl q_salt)), (ra 8, .inl (kI, 40, .inl q_from)), (ra 9, .inl (kI, 40, .inl q_to)), (ra 10, .inl (kI, 6, .inl q_goal)), (ra 11, .inl (kI, 1019, .inl f11)), (ra 14, .inl (kI, 12, .inl q_reach))]) [0, 1, 2, 3, 4, 5, 6, 7, 8] rfl
            have hD9 := hD.sub (ws' := [(m0, .inr (11, oX11 ra y10)), (ra 2, .inl (kI, 8, .inl q_told)), (ra 3, .inl (kI, 24, .inl q_kind)), (ra 4, .inl (kI, 24, .inl q_salt)), (ra 8, .inl (kI, 40, .inl q_from)), (ra 9, .inl (kI, 40, .inl q_to)), (ra 10, .inl (kI, 6, .inl q_goal)), (ra 11, .inl (kI, 1019, .inl f11)), (ra 14, .inl (kI, 12, .inl q_reach))]) [0, 1, 2, 3, 4, 5, 6, 7, 8] (by decide +kernel) rfl
            exact W.iret (v := z19) hx hb hr (fun t ht hW => ⟨⟨z19, (), rfl, (iv_w b20 (by decide) (by decide)), y10, f11, hq12, hq13, by rw [ht]; exact hP9, hD9⟩, hS.F ht⟩) hS.2.2 dX11_cover_118
  have hJ23 : ∀ (n : Nat) (y23_0 : Nat → Int32) (v23_loc2 : Int32) (v23_loc3 : Int32) (H : Heap) (locs : List Loc) (ls : Array Slot), (20 - v23_loc3.toInt).toNat < n → fI lX11 hX11 y23_0 → iv 0 2 p0 → iv 0 20 v23_loc3 → iv 0 0 (y23_0 0) → va_P (dC, dI) vwCl [(m0, .inr (11, oX11 ra y23_0)), (ra 2, .inl (kI, 8, .inl q_told)), (ra 3, .inl (kI, 24, .inl q_kind)), (ra 4, .inl (kI, 24, .inl q_salt)), (ra 8, .inl (kI, 40, .inl q_from)), (ra 9, .inl (kI, 40, .inl q_to)), (ra 10, .inl (kI, 6, .inl q_goal)), (ra 11, .inl (kI, 1019, .inl q_now)), (ra 14, .inl (kI, 12, .inl q_reach))] H → va_D A [(m0, .inr (11, oX11 ra y23_0)), (ra 2, .inl (kI, 8, .inl q_told)), (ra 3, .inl (kI, 24, .inl q_kind)), (ra 4, .inl (kI, 24, .inl q_salt)), (ra 8, .inl (kI, 40, .inl q_from)), (ra 9, .inl (kI, 40, .inl q_to)), (ra 10, .inl (kI, 6, .inl q_goal)), (ra 11, .inl (kI, 1019, .inl q_now)), (ra 14, .inl (kI, 12, .inl q_reach))] → va_S A s.heap H locs → lv_has ls 4 [(0, .ref m0), (1, .int p0), (2, .int v23_loc2), (3, .int v23_loc3)] → W p l e (headSpec wsX11_cover rm_s11_cover).room s m args0 below meth c H locs (0) (0) (MQ below (va_Qi (fun (r : Int32) (_ : Unit) => iv (-1) 32 r) (fun _ t => ∃ (x0' : Nat → Int32) (q_now' : Nat → Int32), fI lX11 hX11 x0' ∧ fI lNow hNow q_now' ∧ va_P (dC, dI) vwCl [(m0, .inr (11, oX11 ra x0')), (ra 2, .inl (kI, 8, .inl q_told)), (ra 3, .inl (kI, 24, .inl q_kind)), (ra 4, .inl (kI, 24, .inl q_salt)), (ra 8, .inl (kI, 40, .inl q_from)), (ra 9, .inl (kI, 40, .inl q_to)), (ra 10, .inl (kI, 6, .inl q_goal)), (ra 11, .inl (kI, 1019, .inl q_now')), (ra 14, .inl (kI, 12, .inl q_reach))] t.heap ∧ va_D A [(m0, .inr (11, oX11 ra x0')), (ra 2, .inl (kI, 8, .inl q_told)), (ra 3, .inl (kI, 24, .inl q_kind)), (ra 4, .inl (kI, 24, .inl q_salt)), (ra 8, .inl (kI, 40, .inl q_from)), (ra 9, .inl (kI, 40, .inl q_to)), (ra 10, .inl (kI, 6, .inl q_goal)), (ra 11, .inl (kI, 1019, .inl q_now')), (ra 14, .inl (kI, 12, .inl q_reach))]) A) args0 s 0 0 A) (F0 m 23 ls []) := by
    intro n
    induction n with
    | zero => intro y23_0 v23_loc2 v23_loc3 H locs ls hm23; exact absurd hm23 (Nat.not_lt_zero _)
    | succ n ih23 =>
      intro y23_0 v23_loc2 v23_loc3 H locs ls hm23 hI23_0 h23_2 h23_3 h23_4 hP hD hS hl
      have hJ76 : ∀ (v76_stk0 : Int32) (H : Heap) (locs : List Loc) (ls : Array Slot), iv 0 19 v23_loc3 → iv 0 524288 v76_stk0 → iv 1 20 (q_told 1) → va_P (dC, dI) vwCl [(m0, .inr (11, oX11 ra y23_0)), (ra 2, .inl (kI, 8, .inl q_told)), (ra 3, .inl (kI, 24, .inl q_kind)), (ra 4, .inl (kI, 24, .inl q_salt)), (ra 8, .inl (kI, 40, .inl q_from)), (ra 9, .inl (kI, 40, .inl q_to)), (ra 10, .inl (kI, 6, .inl q_goal)), (ra 11, .inl (kI, 1019, .inl q_now)), (ra 14, .inl (kI, 12, .inl q_reach))] H → va_D A [(m0, .inr (11, oX11 ra y23_0)), (ra 2, .inl (kI, 8, .inl q_told)), (ra 3, .inl (kI, 24, .inl q_kind)), (ra 4, .inl (kI, 24, .inl q_salt)), (ra 8, .inl (kI, 40, .inl q_from)), (ra 9, .inl (kI, 40, .inl q_to)), (ra 10, .inl (kI, 6, .inl q_goal)), (ra 11, .inl (kI, 1019, .inl q_now)), (ra 14, .inl (kI, 12, .inl q_reach))] → va_S A s.heap H locs → lv_has ls 4 [(0, .ref m0), (1, .int p0), (2, .int v23_loc2), (3, .int v23_loc3)] → W p l e (headSpec wsX11_cover rm_s11_cover).room s m args0 below meth c H locs (0) (0) (MQ below (va_Qi (fun (r : Int32) (_ : Unit) => iv (-1) 32 r) (fun _ t => ∃ (x0' : Nat → Int32) (q_now' : Nat → Int32), fI lX11 hX11 x0' ∧ fI lNow hNow q_now' ∧ va_P (dC, dI) vwCl [(m0, .inr (11, oX11 ra x0')), (ra 2, .inl (kI, 8, .inl q_told)), (ra 3, .inl (kI, 24, .inl q_kind)), (ra 4, .inl (kI, 24, .inl q_salt)), (ra 8, .inl (kI, 40, .inl q_from)), (ra 9, .inl (kI, 40, .inl q_to)), (ra 10, .inl (kI, 6, .inl q_goal)), (ra 11, .inl (kI, 1019, .inl q_now')), (ra 14, .inl (kI, 12, .inl q_reach))] t.heap ∧ va_D A [(m0, .inr (11, oX11 ra x0')), (ra 2, .inl (kI, 8, .inl q_told)), (ra 3, .inl (kI, 24, .inl q_kind)), (ra 4, .inl (kI, 24, .inl q_salt)), (ra 8, .inl (kI, 40, .inl q_from)), (ra 9, .inl (kI, 40, .inl q_to)), (ra 10, .inl (kI, 6, .inl q_goal)), (ra 11, .inl (kI, 1019, .inl q_now')), (ra 14, .inl (kI, 12, .inl q_reach))]) A) args0 s 0 0 A) (F0 m 76 ls [.int v76_stk0, .int v23_loc2]) := by
        intro v76_stk0 H locs ls h76_1 h76_2 h76_3 hP hD hS hl
        refine lv_ior hx hb dX11_cover_76 ?_
        refine lv_topi (fun z21 _ => ?_)
        refine lv_istore_n (lv' := [(2, .int z21), (0, .ref m0), (1, .int p0), (3, .int v23_loc3)]) hx hb dX11_cover_77 rfl hl (by decide) rfl (fun ls hl => ?_)
        refine lv_iinc (v := v23_loc3 + Int32.ofInt 1) (lv' := [(3, .int (v23_loc3 + Int32.ofInt 1)), (2, .int z21), (0, .ref m0), (1, .int p0)]) hx hb dX11_cover_78 hl (k := 3) rfl (rfl) (by decide) rfl (fun ls hl => ?_)
        have b22 : iv 1 20 (v23_loc3 + Int32.ofInt 1) := iv_add h76_1 (iv_k (by decide) (by decide) : iv 1 1 (Int32.ofInt 1)) (by decide) (by decide) (by decide) (by decide)
        refine lv_goto (tgt := 23) hx hb dX11_cover_81 (by decide) ?_
        exact ih23 y23_0 z21 (v23_loc3 + Int32.ofInt 1) _ _ _ (ms_up (c := 1) (d := 0) h76_1 hm23 (by decide) (iv_inc 1 h76_1 (by decide) (by decide) (by decide) (by decide)) (by decide) rfl) (hI23_0) (h23_2) ((iv_w b22 (by decide) (by decide))) (h23_4) (hP.sub [0, 1, 2, 3, 4, 5, 6, 7, 8] rfl) (hD.sub [0, 1, 2, 3, 4, 5, 6, 7, 8] (by decide +kernel) rfl) hS (lv_sub hl [2, 3, 1, 0] rfl)
      have hJ75 : ∀ (H : Heap) (locs : List Loc) (ls : Array Slot), iv 0 19 v23_loc3 → iv 1 20 (q_told 1) → va_P (dC, dI) vwCl [(m0, .inr (11, oX11 ra y23_0)), (ra 2, .inl (kI, 8, .inl q_told)), (ra 3, .inl (kI, 24, .inl q_kind)), (ra 4, .inl (kI, 24, .inl q_salt)), (ra 8, .inl (kI, 40, .inl q_from)), (ra 9, .inl (kI, 40, .inl q_to)), (ra 10, .inl (kI, 6, .inl q_goal)), (ra 11, .inl (kI, 1019, .inl q_now)), (ra 14, .inl (kI, 12, .inl q_reach))] H → va_D A [(m0, .inr (11, oX11 ra y23_0)), (ra 2, .inl (kI, 8, .inl q_told)), (ra 3, .inl (kI, 24, .inl q_kind)), (ra 4, .inl (kI, 24, .inl q_salt)), (ra 8, .inl (kI, 40, .inl q_from)), (ra 9, .inl (kI, 40, .inl q_to)), (ra 10, .inl (kI, 6, .inl q_goal)), (ra 11, .inl (kI, 1019, .inl q_now)), (ra 14, .inl (kI, 12, .inl q_reach))] → va_S A s.heap H locs → lv_has ls 4 [(0, .ref m0), (1, .int p0), (2, .int v23_loc2), (3, .int v23_loc3)] → W p l e (headSpec wsX11_cover rm_s11_cover).room s m args0 below meth c H locs (0) (0) (MQ below (va_Qi (fun (r : Int32) (_ : Unit) => iv (-1) 32 r) (fun _ t => ∃ (x0' : Nat → Int32) (q_now' : Nat → Int32), fI lX11 hX11 x0' ∧ fI lNow hNow q_now' ∧ va_P (dC, dI) vwCl [(m0, .inr (11, oX11 ra x0')), (ra 2, .inl (kI, 8, .inl q_told)), (ra 3, .inl (kI, 24, .inl q_kind)), (ra 4, .inl (kI, 24, .inl q_salt)), (ra 8, .inl (kI, 40, .inl q_from)), (ra 9, .inl (kI, 40, .inl q_to)), (ra 10, .inl (kI, 6, .inl q_goal)), (ra 11, .inl (kI, 1019, .inl q_now')), (ra 14, .inl (kI, 12, .inl q_reach))] t.heap ∧ va_D A [(m0, .inr (11, oX11 ra x0')), (ra 2, .inl (kI, 8, .inl q_told)), (ra 3, .inl (kI, 24, .inl q_kind)), (ra 4, .inl (kI, 24, .inl q_salt)), (ra 8, .inl (kI, 40, .inl q_from)), (ra 9, .inl (kI, 40, .inl q_to)), (ra 10, .inl (kI, 6, .inl q_goal)), (ra 11, .inl (kI, 1019, .inl q_now')), (ra 14, .inl (kI, 12, .inl q_reach))]) A) args0 s 0 0 A) (F0 m 75 ls [.int v23_loc2]) := by
        intro H locs ls h75_1 h75_2 hP hD hS hl
        refine lv_iconst (v := 0) hx hb dX11_cover_75 (by decide) ?_
        exact hJ76 0 _ _ _ (h75_1) ((iv_w (iv_k (by decide) (by decide) : iv 0 0 0) (by decide) (by decide))) (h75_2) (hP.sub [0, 1, 2, 3, 4, 5, 6, 7, 8] rfl) (hD.sub [0, 1, 2, 3, 4, 5, 6, 7, 8] (by decide +kernel) rfl) hS (lv_sub hl [0, 1, 2, 3] rfl)
      refine lv_iload_n hx hb dX11_cover_23 rfl (lv_at hl 3 rfl) ?_
      refine lv_aload_n hx hb dX11_cover_24 rfl (lv_at hl 0 rfl) ?_
      have hPc := hP.sub (ws' := [(m0, .inr (11, oX11 ra y23_0)), (ra 2, .inl (kI, 8, .inl q_told))]) [0, 1] rfl
      have hDc := hD.sub (ws' := [(m0, .inr (11, oX11 ra y23_0)), (ra 2, .inl (kI, 8, .inl q_told))]) [0, 1] (by decide +kernel) rfl
      have hFc := va_free (wc := [(m0, .inr (11, oX11 ra y23_0)), (ra 2, .inl (kI, 8, .inl q_told))]) hD hS hA [0, 1] rfl
      refine va_calli (va_runV (As := []) (rest := [.int v23_loc3]) ⟨hx, hb, hml, hown, hts⟩ (s11_links l dC dI kB kI kJ kZ kC kS H.size m0 ra y23_0 q_told (hI23_0) (hq_told)) (cwV 0 hts gX11_cover_X11_links rfl rfl rfl (by decide +kernel) ⟨Nat.le_of_ble_eq_true rfl, Nat.le_of_ble_eq_true rfl⟩) ⟨fun a U g mk q => by obtain ⟨q0, q1, qP, qE, qD⟩ := q; exact ⟨q0, q1, qP, kE_call qE, qD⟩, va_recv hK hP (ci := 11) (q0 := 0) rfl rfl, fun U hU hW => ⟨rfl, by rw [hU], by rw [hU]; exact hPc, kE_warm hW hE, hDc.weaken (fun _ _ _ _ => trivial)⟩⟩ rfl rfl hl.1 rfl (lv_room (Nat.le_of_ble_eq_true rfl)) dX11_cover_25 ⟨Nat.le_of_ble_eq_true rfl, Nat.le_of_ble_eq_true rfl⟩) hS (fun q _ h => hFc q h) hFc (fun r23 u t H1 locs ht hvm w24 hB hz1 hk1 hS => ?_)
      obtain ⟨hP1, hD1⟩ := hB
      rw [ht] at hP1
      try dsimp only at w24
      obtain ⟨hP, hD⟩ := va_join (wr := [(ra 3, .inl (kI, 24, .inl q_kind)), (ra 4, .inl (kI, 24, .inl q_salt)), (ra 8, .inl (kI, 40, .inl q_from)), (ra 9, .inl (kI, 40, .inl q_to)), (ra 10, .inl (kI, 6, .inl q_goal)), (ra 11, .inl (kI, 1019, .inl q_now)), (ra 14, .inl (kI, 12, .inl q_reach))]) (w1 := [(m0, .inr (11, oX11 ra y23_0)), (ra 2, .inl (kI, 8, .inl q_told))]) hP hD [0, 1] [2, 3, 4, 5, 6, 7, 8] rfl rfl (by decide +kernel) (by decide +kernel) hk1 hFc hP1 hD1
      generalize H1 = H at hP hS ⊢
      have hP : va_P (dC, dI) vwCl [(ra 3, .inl (kI, 24, .inl q_kind)), (ra 4, .inl (kI, 24, .inl q_salt)), (ra 8, .inl (kI, 40, .inl q_from)), (ra 9, .inl (kI, 40, .inl q_to)), (ra 10, .inl (kI, 6, .inl q_goal)), (ra 11, .inl (kI, 1019, .inl q_now)), (ra 14, .inl (kI, 12, .inl q_reach)), (m0, .inr (11, oX11 ra y23_0)), (ra 2, .inl (kI, 8, .inl q_told))] H := hP
      have hD : va_D A [(ra 3, .inl (kI, 24, .inl q_kind)), (ra 4, .inl (kI, 24, .inl q_salt)), (ra 8, .inl (kI, 40, .inl q_from)), (ra 9, .inl (kI, 40, .inl q_to)), (ra 10, .inl (kI, 6, .inl q_goal)), (ra 11, .inl (kI, 1019, .inl q_now)), (ra 14, .inl (kI, 12, .inl q_reach)), (m0, .inr (11, oX11 ra y23_0)), (ra 2, .inl (kI, 8, .inl q_told))] := hD
      refine W.widen (k := 0) (n := 0) (Nat.le_of_ble_eq_true rfl) (Nat.le_of_ble_eq_true rfl) ?_
      subst w24
      refine lv_icmp_ge (tgt := 84) hx hb dX11_cover_28 (by decide) (fun c25 => ?_) (fun c25 => ?_)
      · refine lv_iconst (v := 0) hx hb dX11_cover_84 (by decide) ?_
        refine lv_istore_n (lv' := [(3, .int 0), (0, .ref m0), (1, .int p0), (2, .int v23_loc2)]) hx hb dX11_cover_85 rfl hl (by decide) rfl (fun ls hl => ?_)
        exact hJ86 _ y23_0 q_now v23_loc2 0 _ _ _ (Nat.lt_succ_self _) (hI23_0) (hq_now) (h23_2) ((iv_w (iv_k (by decide) (by decide) : iv 0 0 0) (by decide) (by decide))) (hP.sub [7, 8, 0, 1, 2, 3, 4, 5, 6] rfl) (hD.sub [7, 8, 0, 1, 2, 3, 4, 5, 6] (by decide +kernel) rfl) hS (lv_sub hl [1, 2, 3, 0] rfl)
      · have b26 : iv 0 19 v23_loc3 := iv_ltL (Int32.not_le.mp c25) h23_3 (hq_told 1 : iv 0 20 (q_told 1)) (by decide) (by decide)
        have b27 : iv 1 20 (q_told 1) := iv_ltR (Int32.not_le.mp c25) h23_3 (hq_told 1 : iv 0 20 (q_told 1)) (by decide) (by decide)
        refine lv_iload_n hx hb dX11_cover_31 rfl (lv_at hl 2 rfl) ?_
        refine lv_aload_n hx hb dX11_cover_32 rfl (lv_at hl 0 rfl) ?_
        refine va_get (D := (dC, dI)) (ci := 11) (v := .ref (ra 14)) (C := RX11) (T := TX11) (N := 61) hx hb hts hin11 hown hK hP 7 rfl rfl 25 (by decide) hw_1 (fun _ h9 => h9) rfl dX11_cover_33 ?_
        refine lv_aload_n hx hb dX11_cover_36 rfl (lv_at hl 0 rfl) ?_
        refine va_get (D := (dC, dI)) (ci := 11) (v := .ref (ra 8)) (C := RX11) (T := TX11) (N := 61) hx hb hts hin11 hown hK hP 7 rfl rfl 9 (by decide) hw_2 (fun _ h9 => h9) rfl dX11_cover_37 ?_
        refine lv_iload_n hx hb dX11_cover_40 rfl (lv_at hl 3 rfl) ?_
        refine va_iald hx hb hK hP 2 1 rfl rfl (iv_in b26 (by decide) (by decide)) dX11_cover_41 ?_
        refine iv_top (a := 0) (b := 11) (hq_from _) (fun z28 b29 => ?_)
        refine va_iald hx hb hK hP 6 1 rfl rfl (iv_in b29 (by decide) (by decide)) dX11_cover_42 ?_
        refine lv_topi (fun z30 _ => ?_)
        refine lv_iconst (v := 1) hx hb dX11_cover_43 (by decide) ?_
        refine lv_iand hx hb dX11_cover_44 ?_
        refine iv_top (a := 0) (b := 1) (iv_and (m := 1) (by decide) (by decide) (by decide)) (fun z31 b32 => ?_)
        refine lv_iconst (v := 1) hx hb dX11_cover_45 (by decide) ?_
        refine lv_icmp_ne (tgt := 75) hx hb dX11_cover_46 (by decide) (fun c33 => ?_) (fun c33 => ?_)
        · have b34 : iv 0 0 z31 := iv_neHi c33 b32 (iv_k (by decide) (by decide) : iv 1 1 1) (by decide) (by decide)
          exact hJ75 _ _ _ (b26) (b27) (hP.sub [7, 8, 0, 1, 2, 3, 4, 5, 6] rfl) (hD.sub [7, 8, 0, 1, 2, 3, 4, 5, 6] (by decide +kernel) rfl) hS (lv_sub hl [0, 1, 2, 3] rfl)
        · have b35 : iv 1 1 z31 := iv_eqL c33 (iv_k (by decide) (by decide) : iv 1 1 1)
          refine lv_aload_n hx hb dX11_cover_49 rfl (lv_at hl 0 rfl) ?_
          refine lv_iload_n hx hb dX11_cover_50 rfl (lv_at hl 3 rfl) ?_
          refine lv_aload_n hx hb dX11_cover_51 rfl (lv_at hl 0 rfl) ?_
          refine va_get (D := (dC, dI)) (ci := 11) (v := .ref (ra 8)) (C := RX11) (T := TX11) (N := 61) hx hb hts hin11 hown hK hP 7 rfl rfl 9 (by decide) hw_2 (fun _ h9 => h9) rfl dX11_cover_52 ?_
          refine lv_iload_n hx hb dX11_cover_55 rfl (lv_at hl 3 rfl) ?_
          refine va_iald hx hb hK hP 2 1 rfl rfl (iv_in b26 (by decide) (by decide)) dX11_cover_56 ?_
          refine iv_top (a := 0) (b := 11) (hq_from _) (fun z36 b37 => ?_)
          refine lv_aload_n hx hb dX11_cover_57 rfl (lv_at hl 0 rfl) ?_
          refine va_get (D := (dC, dI)) (ci := 11) (v := .ref (ra 10)) (C := RX11) (T := TX11) (N := 61) hx hb hts hin11 hown hK hP 7 rfl rfl 11 (by decide) hw_3 (fun _ h9 => h9) rfl dX11_cover_58 ?_
          refine lv_iload_n hx hb dX11_cover_61 rfl (lv_at hl 1 rfl) ?_
          refine va_iald hx hb hK hP 4 1 rfl rfl (iv_in h23_2 (by decide) (by decide)) dX11_cover_62 ?_
          refine iv_top (a := 0) (b := 11) (hq_goal _) (fun z38 b39 => ?_)
          have hPc := hP.sub (ws' := [(m0, .inr (11, oX11 ra y23_0)), (ra 8, .inl (kI, 40, .inl q_from)), (ra 9, .inl (kI, 40, .inl q_to)), (ra 14, .inl (kI, 12, .inl q_reach))]) [7, 2, 3, 6] rfl
          have hDc := hD.sub (ws' := [(m0, .inr (11, oX11 ra y23_0)), (ra 8, .inl (kI, 40, .inl q_from)), (ra 9, .inl (kI, 40, .inl q_to)), (ra 14, .inl (kI, 12, .inl q_reach))]) [7, 2, 3, 6] (by decide +kernel) rfl
          have hFc := va_free (wc := [(m0, .inr (11, oX11 ra y23_0)), (ra 8, .inl (kI, 40, .inl q_from)), (ra 9, .inl (kI, 40, .inl q_to)), (ra 14, .inl (kI, 12, .inl q_reach))]) hD hS hA [7, 2, 3, 6] rfl
          refine va_calli (va_runV (As := [.int v23_loc3, .int z36, .int z38]) (rest := [.int v23_loc2]) ⟨hx, hb, hml, hown, hts⟩ (s11_isBranch l dC dI kB kI kJ kZ kC kS H.size m0 ra y23_0 q_from q_to q_reach v23_loc3 z36 z38 (hI23_0) (hq_from) (hq_to) ((iv_w b26 (by decide) (by decide))) (b39)) (cwV 3 hts gX11_cover_X11_isBranch rfl rfl rfl (by decide +kernel) ⟨Nat.le_of_ble_eq_true rfl, Nat.le_of_ble_eq_true rfl⟩) ⟨fun a U g mk q => by obtain ⟨q0, q1, qP, qE, qD⟩ := q; exact ⟨q0, q1, qP, kE_call qE, qD⟩, va_recv hK hP (ci := 11) (q0 := 7) rfl rfl, fun U hU hW => ⟨rfl, by rw [hU], by rw [hU]; exact hPc, kE_warm hW hE, hDc.weaken (fun _ _ _ _ => trivial)⟩⟩ rfl rfl hl.1 rfl (lv_room (Nat.le_of_ble_eq_true rfl)) dX11_cover_63 ⟨Nat.le_of_ble_eq_true rfl, Nat.le_of_ble_eq_true rfl⟩) hS (fun q _ h => hFc q h) hFc (fun r40 u t H1 locs ht hvm w41 hB hz1 hk1 hS => ?_)
          obtain ⟨hP1, hD1⟩ := hB
          rw [ht] at hP1
          try dsimp only at w41
          obtain ⟨hP, hD⟩ := va_join (wr := [(ra 3, .inl (kI, 24, .inl q_kind)), (ra 4, .inl (kI, 24, .inl q_salt)), (ra 10, .inl (kI, 6, .inl q_goal)), (ra 11, .inl (kI, 1019, .inl q_now)), (ra 2, .inl (kI, 8, .inl q_told))]) (w1 := [(m0, .inr (11, oX11 ra y23_0)), (ra 8, .inl (kI, 40, .inl q_from)), (ra 9, .inl (kI, 40, .inl q_to)), (ra 14, .inl (kI, 12, .inl q_reach))]) hP hD [7, 2, 3, 6] [0, 1, 4, 5, 8] rfl rfl (by decide +kernel) (by decide +kernel) hk1 hFc hP1 hD1
          generalize H1 = H at hP hS ⊢
          have hP : va_P (dC, dI) vwCl [(ra 3, .inl (kI, 24, .inl q_kind)), (ra 4, .inl (kI, 24, .inl q_salt)), (ra 10, .inl (kI, 6, .inl q_goal)), (ra 11, .inl (kI, 1019, .inl q_now)), (ra 2, .inl (kI, 8, .inl q_told)), (m0, .inr (11, oX11 ra y23_0)), (ra 8, .inl (kI, 40, .inl q_from)), (ra 9, .inl (kI, 40, .inl q_to)), (ra 14, .inl (kI, 12, .inl q_reach))] H := hP
          have hD : va_D A [(ra 3, .inl (kI, 24, .inl q_kind)), (ra 4, .inl (kI, 24, .inl q_salt)), (ra 10, .inl (kI, 6, .inl q_goal)), (ra 11, .inl (kI, 1019, .inl q_now)), (ra 2, .inl (kI, 8, .inl q_told)), (m0, .inr (11, oX11 ra y23_0)), (ra 8, .inl (kI, 40, .inl q_from)), (ra 9, .inl (kI, 40, .inl q_to)), (ra 14, .inl (kI, 12, .inl q_reach))] := hD
          refine W.widen (k := 0) (n := 0) (Nat.le_of_ble_eq_true rfl) (Nat.le_of_ble_eq_true rfl) ?_
          refine lv_if_eq (tgt := 75) hx hb dX11_cover_66 (by decide) (fun c42 => ?_) (fun c42 => ?_)
          · have b43 : iv 0 0 r40 := iv_eqL c42 (iv_k (by decide) (by decide) : iv 0 0 0)
            exact hJ75 _ _ _ (b26) (b27) (hP.sub [5, 4, 0, 1, 6, 7, 2, 3, 8] rfl) (hD.sub [5, 4, 0, 1, 6, 7, 2, 3, 8] (by decide +kernel) rfl) hS (lv_sub hl [0, 1, 2, 3] rfl)
          · have b44 : iv 1 1 r40 := iv_neLo c42 w41.1 (iv_k (by decide) (by decide) : iv 0 0 0) (by decide) (by decide)
            have hr45 : q_from v23_loc3.toNatClampNeg = z36 := (w41.2).resolve_left (iv_ne b44 (iv_k (by decide) (by decide) : iv 0 0 0) (by decide))
            refine lv_iconst (v := 1) hx hb dX11_cover_69 (by decide) ?_
            refine lv_iload_n hx hb dX11_cover_70 rfl (lv_at hl 3 rfl) ?_
            refine lv_ishl hx hb dX11_cover_71 ?_
            refine iv_top (a := 0) (b := 524288) (iv_shl1 19 b26 (by decide) (by decide) (by decide) (by decide)) (fun z46 b47 => ?_)
            refine lv_goto (tgt := 76) hx hb dX11_cover_72 (by decide) ?_
            exact hJ76 z46 _ _ _ (b26) (b47) (b27) (hP.sub [5, 4, 0, 1, 6, 7, 2, 3, 8] rfl) (hD.sub [5, 4, 0, 1, 6, 7, 2, 3, 8] (by decide +kernel) rfl) hS (lv_sub hl [0, 1, 2, 3] rfl)
  refine lv_aload_n hx hb dX11_cover_0 rfl (lv_at hl 0 rfl) ?_
  refine lv_iconst (v := 0) hx hb dX11_cover_1 (by decide) ?_
  refine va_put (D := (dC, dI)) (ci := 11) (v := .int 0) (ty := .int) (C := RX11) (T := TX11) (N := 61) hx hb hts hin11 tyX11 tyX11_ok nmX11 hown hK hP hD hS 0 rfl rfl 2 (by decide) hw_4 (fun _ h9 => h9) rfl (by decide +kernel) rfl rfl (Nat.le_of_ble_eq_true rfl) dX11_cover_2 (fun H locs hP hD hS => ?_)
  have hP : va_P (dC, dI) vwCl [(m0, .inr (11, oX11 ra (upd x0 0 0))), (ra 2, .inl (kI, 8, .inl q_told)), (ra 3, .inl (kI, 24, .inl q_kind)), (ra 4, .inl (kI, 24, .inl q_salt)), (ra 8, .inl (kI, 40, .inl q_from)), (ra 9, .inl (kI, 40, .inl q_to)), (ra 10, .inl (kI, 6, .inl q_goal)), (ra 11, .inl (kI, 1019, .inl q_now)), (ra 14, .inl (kI, 12, .inl q_reach))] H := hP
  have hD : va_D A [(m0, .inr (11, oX11 ra (upd x0 0 0))), (ra 2, .inl (kI, 8, .inl q_told)), (ra 3, .inl (kI, 24, .inl q_kind)), (ra 4, .inl (kI, 24, .inl q_salt)), (ra 8, .inl (kI, 40, .inl q_from)), (ra 9, .inl (kI, 40, .inl q_to)), (ra 10, .inl (kI, 6, .inl q_goal)), (ra 11, .inl (kI, 1019, .inl q_now)), (ra 14, .inl (kI, 12, .inl q_reach))] := hD
  refine lv_aload_n hx hb dX11_cover_5 rfl (lv_at hl 0 rfl) ?_
  refine lv_iload_n hx hb dX11_cover_6 rfl (lv_at hl 1 rfl) ?_
  have hPc := hP.sub (ws' := [(m0, .inr (11, oX11 ra (upd x0 0 0))), (ra 2, .inl (kI, 8, .inl q_told))]) [0, 1] rfl
  have hDc := hD.sub (ws' := [(m0, .inr (11, oX11 ra (upd x0 0 0))), (ra 2, .inl (kI, 8, .inl q_told))]) [0, 1] (by decide +kernel) rfl
  have hFc := va_free (wc := [(m0, .inr (11, oX11 ra (upd x0 0 0))), (ra 2, .inl (kI, 8, .inl q_told))]) hD hS hA [0, 1] rfl
  refine va_calli (va_runV (As := [.int p0]) (rest := []) ⟨hx, hb, hml, hown, hts⟩ (s11_isGoal l dC dI kB kI kJ kZ kC kS H.size m0 ra (upd x0 0 0) q_told p0 ((fI_u hX (k := 0) ((iv_w (iv_k (by decide) (by decide) : iv 0 0 0) (by decide) (by decide))))) (hq_told)) (cwV 1 hts gX11_cover_X11_isGoal rfl rfl rfl (by decide +kernel) ⟨Nat.le_of_ble_eq_true rfl, Nat.le_of_ble_eq_true rfl⟩) ⟨fun a U g mk q => by obtain ⟨q0, q1, qP, qE, qD⟩ := q; exact ⟨q0, q1, qP, kE_call qE, qD⟩, va_recv hK hP (ci := 11) (q0 := 0) rfl rfl, fun U hU hW => ⟨rfl, by rw [hU], by rw [hU]; exact hPc, kE_warm hW hE, hDc.weaken (fun _ _ _ _ => trivial)⟩⟩ rfl rfl hl.1 rfl (lv_room (Nat.le_of_ble_eq_true rfl)) dX11_cover_7 ⟨Nat.le_of_ble_eq_true rfl, Nat.le_of_ble_eq_true rfl⟩) hS (fun q _ h => hFc q h) hFc (fun r48 u t H1 locs ht hvm w49 hB hz1 hk1 hS => ?_)
  obtain ⟨hP1, hD1⟩ := hB
  rw [ht] at hP1
  try dsimp only at w49
  obtain ⟨hP, hD⟩ := va_join (wr := [(ra 3, .inl (kI, 24, .inl q_kind)), (ra 4, .inl (kI, 24, .inl q_salt)), (ra 8, .inl (kI, 40, .inl q_from)), (ra 9, .inl (kI, 40, .inl q_to)), (ra 10, .inl (kI, 6, .inl q_goal)), (ra 11, .inl (kI, 1019, .inl q_now)), (ra 14, .inl (kI, 12, .inl q_reach))]) (w1 := [(m0, .inr (11, oX11 ra (upd x0 0 0))), (ra 2, .inl (kI, 8, .inl q_told))]) hP hD [0, 1] [2, 3, 4, 5, 6, 7, 8] rfl rfl (by decide +kernel) (by decide +kernel) hk1 hFc hP1 hD1
  generalize H1 = H at hP hS ⊢
  have hP : va_P (dC, dI) vwCl [(ra 3, .inl (kI, 24, .inl q_kind)), (ra 4, .inl (kI, 24, .inl q_salt)), (ra 8, .inl (kI, 40, .inl q_from)), (ra 9, .inl (kI, 40, .inl q_to)), (ra 10, .inl (kI, 6, .inl q_goal)), (ra 11, .inl (kI, 1019, .inl q_now)), (ra 14, .inl (kI, 12, .inl q_reach)), (m0, .inr (11, oX11 ra (upd x0 0 0))), (ra 2, .inl (kI, 8, .inl q_told))] H := hP
  have hD : va_D A [(ra 3, .inl (kI, 24, .inl q_kind)), (ra 4, .inl (kI, 24, .inl q_salt)), (ra 8, .inl (kI, 40, .inl q_from)), (ra 9, .inl (kI, 40, .inl q_to)), (ra 10, .inl (kI, 6, .inl q_goal)), (ra 11, .inl (kI, 1019, .inl q_now)), (ra 14, .inl (kI, 12, .inl q_reach)), (m0, .inr (11, oX11 ra (upd x0 0 0))), (ra 2, .inl (kI, 8, .inl q_told))] := hD
  refine W.widen (k := 0) (n := 0) (Nat.le_of_ble_eq_true rfl) (Nat.le_of_ble_eq_true rfl) ?_
  refine lv_if_ne (tgt := 19) hx hb dX11_cover_10 (by decide) (fun c50 => ?_) (fun c50 => ?_)
  · have b51 : iv 1 1 r48 := iv_neLo c50 w49.1 (iv_k (by decide) (by decide) : iv 0 0 0) (by decide) (by decide)
    have b52 : iv 0 2 p0 := (w49.2).resolve_left (iv_ne b51 (iv_k (by decide) (by decide) : iv 0 0 0) (by decide))
    refine lv_iconst (v := 0) hx hb dX11_cover_19 (by decide) ?_
    refine lv_istore_n (lv' := [(2, .int 0), (0, .ref m0), (1, .int p0)]) hx hb dX11_cover_20 rfl hl (by decide) rfl (fun ls hl => ?_)
    refine lv_iconst (v := 0) hx hb dX11_cover_21 (by decide) ?_
    refine lv_istore_n (lv' := [(3, .int 0), (2, .int 0), (0, .ref m0), (1, .int p0)]) hx hb dX11_cover_22 rfl hl (by decide) rfl (fun ls hl => ?_)
    exact hJ23 _ (upd x0 0 0) 0 0 _ _ _ (Nat.lt_succ_self _) ((fI_u hX (k := 0) ((iv_w (iv_k (by decide) (by decide) : iv 0 0 0) (by decide) (by decide))))) (b52) ((iv_w (iv_k (by decide) (by decide) : iv 0 0 0) (by decide) (by decide))) ((iv_k (by decide) (by decide) : iv 0 0 0)) (hP.sub [7, 8, 0, 1, 2, 3, 4, 5, 6] rfl) (hD.sub [7, 8, 0, 1, 2, 3, 4, 5, 6] (by decide +kernel) rfl) hS (lv_sub hl [2, 3, 1, 0] rfl)
  · have b53 : iv 0 0 r48 := iv_eqL c50 (iv_k (by decide) (by decide) : iv 0 0 0)
    refine lv_aload_n hx hb dX11_cover_13 rfl (lv_at hl 0 rfl) ?_
    refine lv_iconst (v := 1) hx hb dX11_cover_14 (by decide) ?_
    have hPc := hP.sub (ws' := [(m0, .inr (11, oX11 ra (upd x0 0 0)))]) [7] rfl
    have hDc := hD.sub (ws' := [(m0, .inr (11, oX11 ra (upd x0 0 0)))]) [7] (by decide +kernel) rfl
    have hFc := va_free (wc := [(m0, .inr (11, oX11 ra (upd x0 0 0)))]) hD hS hA [7] rfl
    refine va_calli (va_runV (As := [.int 1]) (rest := []) ⟨hx, hb, hml, hown, hts⟩ (s11_fail l dC dI kB kI kJ kZ kC kS H.size m0 ra (upd x0 0 0) 1 ((fI_u hX (k := 0) ((iv_w (iv_k (by decide) (by decide) : iv 0 0 0) (by decide) (by decide)))))) (cwV 1 hts gX11_cover_X11_fail rfl rfl rfl (by decide +kernel) ⟨Nat.le_of_ble_eq_true rfl, Nat.le_of_ble_eq_true rfl⟩) ⟨fun a U g mk q => by obtain ⟨q0, q1, qP, qE, qD⟩ := q; exact ⟨q0, q1, qP, kE_call qE, qD⟩, va_recv hK hP (ci := 11) (q0 := 7) rfl rfl, fun U hU hW => ⟨rfl, by rw [hU], by rw [hU]; exact hPc, kE_warm hW hE, hDc.weaken (fun _ _ _ _ => trivial)⟩⟩ rfl rfl hl.1 rfl (lv_room (Nat.le_of_ble_eq_true rfl)) dX11_cover_15 ⟨Nat.le_of_ble_eq_true rfl, Nat.le_of_ble_eq_true rfl⟩) hS (fun q _ h => hFc q h) hFc (fun r54 u t H1 locs ht hvm w55 hB hz1 hk1 hS => ?_)
    obtain ⟨y56, hq57, hq58, hP1, hD1⟩ := hB
    rw [ht] at hP1
    try dsimp only at w55
    obtain ⟨hP, hD⟩ := va_join (wr := [(ra 3, .inl (kI, 24, .inl q_kind)), (ra 4, .inl (kI, 24, .inl q_salt)), (ra 8, .inl (kI, 40, .inl q_from)), (ra 9, .inl (kI, 40, .inl q_to)), (ra 10, .inl (kI, 6, .inl q_goal)), (ra 11, .inl (kI, 1019, .inl q_now)), (ra 14, .inl (kI, 12, .inl q_reach)), (ra 2, .inl (kI, 8, .inl q_told))]) (w1 := [(m0, .inr (11, oX11 ra y56))]) hP hD [7] [0, 1, 2, 3, 4, 5, 6, 8] rfl rfl (by decide +kernel) (by decide +kernel) hk1 hFc hP1 hD1
    generalize H1 = H at hP hS ⊢
    have hP : va_P (dC, dI) vwCl [(ra 3, .inl (kI, 24, .inl q_kind)), (ra 4, .inl (kI, 24, .inl q_salt)), (ra 8, .inl (kI, 40, .inl q_from)), (ra 9, .inl (kI, 40, .inl q_to)), (ra 10, .inl (kI, 6, .inl q_goal)), (ra 11, .inl (kI, 1019, .inl q_now)), (ra 14, .inl (kI, 12, .inl q_reach)), (ra 2, .inl (kI, 8, .inl q_told)), (m0, .inr (11, oX11 ra y56))] H := hP
    have hD : va_D A [(ra 3, .inl (kI, 24, .inl q_kind)), (ra 4, .inl (kI, 24, .inl q_salt)), (ra 8, .inl (kI, 40, .inl q_from)), (ra 9, .inl (kI, 40, .inl q_to)), (ra 10, .inl (kI, 6, .inl q_goal)), (ra 11, .inl (kI, 1019, .inl q_now)), (ra 14, .inl (kI, 12, .inl q_reach)), (ra 2, .inl (kI, 8, .inl q_told)), (m0, .inr (11, oX11 ra y56))] := hD
    refine W.widen (k := 0) (n := 0) (Nat.le_of_ble_eq_true rfl) (Nat.le_of_ble_eq_true rfl) ?_
    obtain rfl : r54 = 0 := iv_one w55 (by decide)
    have hP9 := hP.sub (ws' := [(m0, .inr (11, oX11 ra y56)), (ra 2, .inl (kI, 8, .inl q_told)), (ra 3, .inl (kI, 24, .inl q_kind)), (ra 4, .inl (kI, 24, .inl q_salt)), (ra 8, .inl (kI, 40, .inl q_from)), (ra 9, .inl (kI, 40, .inl q_to)), (ra 10, .inl (kI, 6, .inl q_goal)), (ra 11, .inl (kI, 1019, .inl q_now)), (ra 14, .inl (kI, 12, .inl q_reach))]) [8, 7, 0, 1, 2, 3, 4, 5, 6] rfl
    have hD9 := hD.sub (ws' := [(m0, .inr (11, oX11 ra y56)), (ra 2, .inl (kI, 8, .inl q_told)), (ra 3, .inl (kI, 24, .inl q_kind)), (ra 4, .inl (kI, 24, .inl q_salt)), (ra 8, .inl (kI, 40, .inl q_from)), (ra 9, .inl (kI, 40, .inl q_to)), (ra 10, .inl (kI, 6, .inl q_goal)), (ra 11, .inl (kI, 1019, .inl q_now)), (ra 14, .inl (kI, 12, .inl q_reach))]) [8, 7, 0, 1, 2, 3, 4, 5, 6] (by decide +kernel) rfl
    exact W.iret (v := 0) hx hb hr (fun t ht hW => ⟨⟨0, (), rfl, (iv_w (iv_k (by decide) (by decide) : iv 0 0 0) (by decide) (by decide)), y56, q_now, hq57, hq_now, by rw [ht]; exact hP9, hD9⟩, hS.F ht⟩) hS.2.2 dX11_cover_18
def rm_s11_note : Room := { frames := 2, cells := 0, slots := 0, locals := 43 }
set_option maxHeartbeats 4000000 in
set_option maxRecDepth 100000 in
theorem s11_note (l : Launch) (dC : Nat → ClassId) (dI : Nat → Nat → Nat) (kB kI kJ kZ kC kS : ClassId) (sz : Nat) (m0 : Nat) (ra : Nat → Nat) (x0 : Nat → Int32) (q_told : Nat → Int32) (q_status : Nat → Int32) (q_notedPort : Nat → Int32) (q_notedGoal : Nat → Int32) (q_notedHop : Nat → Int32) (q_notedAddress : Nat → Int32) (p0 : Int32) (p1 : Int32) (p2 : Int32) (p3 : Int32) (hX : fI lX11 hX11 x0) (hq_told : fI lTold hTold q_told) (hq_notedPort : fI (fun _ => 0) (fun _ => 31) q_notedPort) (hq_notedGoal : fI (fun _ => 0) (fun _ => 2) q_notedGoal) : Met l yX11_note wsX11_note rm_s11_note (va_Pc [.ref m0, .int p0, .int p1, .int p2, .int p3] (fun U => U.heap.size = sz ∧ va_P (dC, dI) vwCl [(m0, .inr (11, oX11 ra x0)), (ra 2, .inl (kI, 8, .inl q_told)), (ra 12, .inl (kI, 3, .inl q_status)), (ra 22, .inl (kI, 8, .inl q_notedPort)), (ra 23, .inl (kI, 8, .inl q_notedGoal)), (ra 24, .inl (kI, 8, .inl q_notedHop)), (ra 25, .inl (kI, 8, .inl q_notedAddress))] U.heap ∧ kE dC dI kB kI kJ kZ kC kS U ∧ va_D (fun _ => True) [(m0, .inr (11, oX11 ra x0)), (ra 2, .inl (kI, 8, .inl q_told)), (ra 12, .inl (kI, 3, .inl q_status)), (ra 22, .inl (kI, 8, .inl q_notedPort)), (ra 23, .inl (kI, 8, .inl q_notedGoal)), (ra 24, .inl (kI, 8, .inl q_notedHop)), (ra 25, .inl (kI, 8, .inl q_notedAddress))])) (va_Qi (fun (r : Int32) (_ : Unit) => iv (-1) 8 r) (fun _ t => ∃ (x0' : Nat → Int32) (q_status' : Nat → Int32) (q_notedPort' : Nat → Int32) (q_notedGoal' : Nat → Int32) (q_notedHop' : Nat → Int32) (q_notedAddress' : Nat → Int32), fI lX11 hX11 x0' ∧ fI (fun _ => 0) (fun _ => 31) q_notedPort' ∧ fI (fun _ => 0) (fun _ => 2) q_notedGoal' ∧ va_P (dC, dI) vwCl [(m0, .inr (11, oX11 ra x0')), (ra 2, .inl (kI, 8, .inl q_told)), (ra 12, .inl (kI, 3, .inl q_status')), (ra 22, .inl (kI, 8, .inl q_notedPort')), (ra 23, .inl (kI, 8, .inl q_notedGoal')), (ra 24, .inl (kI, 8, .inl q_notedHop')), (ra 25, .inl (kI, 8, .inl q_notedAddress'))] t.heap ∧ va_D (va_A [(m0, .inr (11, oX11 ra x0)), (ra 2, .inl (kI, 8, .inl q_told)), (ra 12, .inl (kI, 3, .inl q_status)), (ra 22, .inl (kI, 8, .inl q_notedPort)), (ra 23, .inl (kI, 8, .inl q_notedGoal)), (ra 24, .inl (kI, 8, .inl q_notedHop)), (ra 25, .inl (kI, 8, .inl q_notedAddress))] sz) [(m0, .inr (11, oX11 ra x0')), (ra 2, .inl (kI, 8, .inl q_told)), (ra 12, .inl (kI, 3, .inl q_status')), (ra 22, .inl (kI, 8, .inl q_notedPort')), (ra 23, .inl (kI, 8, .inl q_notedGoal')), (ra 24, .inl (kI, 8, .inl q_notedHop')), (ra 25, .inl (kI, 8, .inl q_notedAddress'))]) (va_A [(m0, .inr (11, oX11 ra x0)), (ra 2, .inl (kI, 8, .inl q_told)), (ra 12, .inl (kI, 3, .inl q_status)), (ra 22, .inl (kI, 8, .inl q_notedPort)), (ra 23, .inl (kI, 8, .inl q_notedGoal)), (ra 24, .inl (kI, 8, .inl q_notedHop)), (ra 25, .inl (kI, 8, .inl q_notedAddress))] sz)) 0 0 (va_A [(m0, .inr (11, oX11 ra x0)), (ra 2, .inl (kI, 8, .inl q_told)), (ra 12, .inl (kI, 3, .inl q_status)), (ra 22, .inl (kI, 8, .inl q_notedPort)), (ra 23, .inl (kI, 8, .inl q_notedGoal)), (ra 24, .inl (kI, 8, .inl q_notedHop)), (ra 25, .inl (kI, 8, .inl q_notedAddress))] sz) := by
  refine Met.ofW (cc := cX11_note) (maxL := 5) (ret := (some .int)) (by decide) rfl ?_
  intro p e s m args0 below meth c s₁ B hml hv
  obtain ⟨hargs, hsz, hP, hE, hD0⟩ := hv
  have hx := B.exec
  have hb := B.bytes
  have hr := B.returns
  have hts := atoms_spec (ws := wsX11_note) B.pre
  have hown : s.vm.findClass RX11 = some m.cls := findClass_of_methodNamed B.named
  have hlocks := B.notSynchronized
  have hK := hE.1
  have hin11 : ∀ w ∈ wsX110, w ∈ wsX11_note := fun _ h9 => List.mem_cons_of_mem _ (List.mem_append_right _ h9)
  have hw_0 := hts (.fieldLink RX11 142 "PathProberModel" "code" "I") (List.mem_of_getElem? (i := 1) (by decide +kernel))
  have hw_1 := hts (.fieldLink RX11 253 "PathProberModel" "noted" "I") (List.mem_of_getElem? (i := 2) (by decide +kernel))
  have hw_2 := hts (.fieldLink RX11 103 "PathProberModel" "notedPort" "[I") (List.mem_of_getElem? (i := 3) (by decide +kernel))
  have hw_3 := hts (.fieldLink RX11 106 "PathProberModel" "notedGoal" "[I") (List.mem_of_getElem? (i := 4) (by decide +kernel))
  have hw_4 := hts (.fieldLink RX11 109 "PathProberModel" "notedHop" "[I") (List.mem_of_getElem? (i := 5) (by decide +kernel))
  have hw_5 := hts (.fieldLink RX11 112 "PathProberModel" "notedAddress" "[I") (List.mem_of_getElem? (i := 6) (by decide +kernel))
  subst hsz
  have hD := hD0.self (sz := s.heap.size)
  generalize hAe : va_A [(m0, .inr (11, oX11 ra x0)), (ra 2, .inl (kI, 8, .inl q_told)), (ra 12, .inl (kI, 3, .inl q_status)), (ra 22, .inl (kI, 8, .inl q_notedPort)), (ra 23, .inl (kI, 8, .inl q_notedGoal)), (ra 24, .inl (kI, 8, .inl q_notedHop)), (ra 25, .inl (kI, 8, .inl q_notedAddress))] s.heap.size = A at hD ⊢
  have hA : ∀ q : Nat, s.heap.size ≤ q → A q := fun q h => by rw [← hAe]; exact Or.inr h
  have hS : va_S A s.heap s.heap [] := va_S.rf
  have hP : va_P (dC, dI) vwCl [(m0, .inr (11, oX11 ra x0)), (ra 2, .inl (kI, 8, .inl q_told)), (ra 12, .inl (kI, 3, .inl q_status)), (ra 22, .inl (kI, 8, .inl q_notedPort)), (ra 23, .inl (kI, 8, .inl q_notedGoal)), (ra 24, .inl (kI, 8, .inl q_notedHop)), (ra 25, .inl (kI, 8, .inl q_notedAddress))] s.heap := hP
  have hl := lv_entry ([.ref m0, .int p0, .int p1, .int p2, .int p3]) (n := 5) (Nat.le_of_ble_eq_true rfl)
  have hla : entryFrame m args0 5 = entryFrame m ([.ref m0, .int p0, .int p1, .int p2, .int p3] : List Value).toArray 5 := by rw [hargs]
  rw [hla, lg_entry_eq]
  generalize (lg_sl ([.ref m0, .int p0, .int p1, .int p2, .int p3]) ++ List.replicate (5 - (lg_sl ([.ref m0, .int p0, .int p1, .int p2, .int p3])).length) Slot.unset).toArray = ls at hl ⊢
  have hl : lv_has ls 5 [(0, .ref m0), (1, .int p0), (2, .int p1), (3, .int p2), (4, .int p3)] := hl
  have hJ45 : ∀ (y45_0 : Nat → Int32) (H : Heap) (locs : List Loc) (ls : Array Slot), fI lX11 hX11 y45_0 → iv 0 0 (y45_0 0) → va_P (dC, dI) vwCl [(m0, .inr (11, oX11 ra y45_0)), (ra 2, .inl (kI, 8, .inl q_told)), (ra 12, .inl (kI, 3, .inl q_status)), (ra 22, .inl (kI, 8, .inl q_notedPort)), (ra 23, .inl (kI, 8, .inl q_notedGoal)), (ra 24, .inl (kI, 8, .inl q_notedHop)), (ra 25, .inl (kI, 8, .inl q_notedAddress))] H → va_D A [(m0, .inr (11, oX11 ra y45_0)), (ra 2, .inl (kI, 8, .inl q_told)), (ra 12, .inl (kI, 3, .inl q_status)), (ra 22, .inl (kI, 8, .inl q_notedPort)), (ra 23, .inl (kI, 8, .inl q_notedGoal)), (ra 24, .inl (kI, 8, .inl q_notedHop)), (ra 25, .inl (kI, 8, .inl q_notedAddress))] → va_S A s.heap H locs → lv_has ls 5 [(0, .ref m0), (1, .int p0), (2, .int p1), (3, .int p2), (4, .int p3)] → W p l e (headSpec wsX11_note rm_s11_note).room s m args0 below meth c H locs (0) (0) (MQ below (va_Qi (fun (r : Int32) (_ : Unit) => iv (-1) 8 r) (fun _ t => ∃ (x0' : Nat → Int32) (q_status' : Nat → Int32) (q_notedPort' : Nat → Int32) (q_notedGoal' : Nat → Int32) (q_notedHop' : Nat → Int32) (q_notedAddress' : Nat → Int32), fI lX11 hX11 x0' ∧ fI (fun _ => 0) (fun _ => 31) q_notedPort' ∧ fI (fun _ => 0) (fun _ => 2) q_notedGoal' ∧ va_P (dC, dI) vwCl [(m0, .inr (11, oX11 ra x0')), (ra 2, .inl (kI, 8, .inl q_told)), (ra 12, .inl (kI, 3, .inl q_status')), (ra 22, .inl (kI, 8, .inl q_notedPort')), (ra 23, .inl (kI, 8, .inl q_notedGoal')), (ra 24, .inl (kI, 8, .inl q_notedHop')), (ra 25, .inl (kI, 8, .inl q_notedAddress'))] t.heap ∧ va_D A [(m0, .inr (11, oX11 ra x0')), (ra 2, .inl (kI, 8, .inl q_told)), (ra 12, .inl (kI, 3, .inl q_status')), (ra 22, .inl (kI, 8, .inl q_notedPort')), (ra 23, .inl (kI, 8, .inl q_notedGoal')), (ra 24, .inl (kI, 8, .inl q_notedHop')), (ra 25, .inl (kI, 8, .inl q_notedAddress'))]) A) args0 s 0 0 A) (F0 m 45 ls []) := by
    intro y45_0 H locs ls hI45_0 h45_2 hP hD hS hl
    refine lv_aload_n hx hb dX11_note_45 rfl (lv_at hl 0 rfl) ?_
    refine lv_iconst (v := 2) hx hb dX11_note_46 (by decide) ?_
    have hPc := hP.sub (ws' := [(m0, .inr (11, oX11 ra y45_0)), (ra 12, .inl (kI, 3, .inl q_status))]) [0, 2] rfl
    have hDc := hD.sub (ws' := [(m0, .inr (11, oX11 ra y45_0)), (ra 12, .inl (kI, 3, .inl q_status))]) [0, 2] (by decide +kernel) rfl
    have hFc := va_free (wc := [(m0, .inr (11, oX11 ra y45_0)), (ra 12, .inl (kI, 3, .inl q_status))]) hD hS hA [0, 2] rfl
    refine va_calli (va_runV (As := [.int 2]) (rest := []) ⟨hx, hb, hml, hown, hts⟩ (s11_refuse l dC dI kB kI kJ kZ kC kS H.size m0 ra y45_0 q_status 2 (hI45_0) ((iv_w (iv_k (by decide) (by decide) : iv 2 2 2) (by decide) (by decide)))) (cwV 1 hts gX11_note_X11_refuse rfl rfl rfl (by decide +kernel) ⟨Nat.le_of_ble_eq_true rfl, Nat.le_of_ble_eq_true rfl⟩) ⟨fun a U g mk q => by obtain ⟨q0, q1, qP, qE, qD⟩ := q; exact ⟨q0, q1, qP, kE_call qE, qD⟩, va_recv hK hP (ci := 11) (q0 := 0) rfl rfl, fun U hU hW => ⟨rfl, by rw [hU], by rw [hU]; exact hPc, kE_warm hW hE, hDc.weaken (fun _ _ _ _ => trivial)⟩⟩ rfl rfl hl.1 rfl (lv_room (Nat.le_of_ble_eq_true rfl)) dX11_note_47 ⟨Nat.le_of_ble_eq_true rfl, Nat.le_of_ble_eq_true rfl⟩) hS (fun q _ h => hFc q h) hFc (fun r1 u t H1 locs ht hvm w2 hB hz1 hk1 hS => ?_)
    obtain ⟨f3, hP1, hD1⟩ := hB
    rw [ht] at hP1
    try dsimp only at w2
    obtain ⟨hP, hD⟩ := va_join (wr := [(ra 2, .inl (kI, 8, .inl q_told)), (ra 22, .inl (kI, 8, .inl q_notedPort)), (ra 23, .inl (kI, 8, .inl q_notedGoal)), (ra 24, .inl (kI, 8, .inl q_notedHop)), (ra 25, .inl (kI, 8, .inl q_notedAddress))]) (w1 := [(m0, .inr (11, oX11 ra y45_0)), (ra 12, .inl (kI, 3, .inl f3))]) hP hD [0, 2] [1, 3, 4, 5, 6] rfl rfl (by decide +kernel) (by decide +kernel) hk1 hFc hP1 hD1
    generalize H1 = H at hP hS ⊢
    have hP : va_P (dC, dI) vwCl [(ra 2, .inl (kI, 8, .inl q_told)), (ra 22, .inl (kI, 8, .inl q_notedPort)), (ra 23, .inl (kI, 8, .inl q_notedGoal)), (ra 24, .inl (kI, 8, .inl q_notedHop)), (ra 25, .inl (kI, 8, .inl q_notedAddress)), (m0, .inr (11, oX11 ra y45_0)), (ra 12, .inl (kI, 3, .inl f3))] H := hP
    have hD : va_D A [(ra 2, .inl (kI, 8, .inl q_told)), (ra 22, .inl (kI, 8, .inl q_notedPort)), (ra 23, .inl (kI, 8, .inl q_notedGoal)), (ra 24, .inl (kI, 8, .inl q_notedHop)), (ra 25, .inl (kI, 8, .inl q_notedAddress)), (m0, .inr (11, oX11 ra y45_0)), (ra 12, .inl (kI, 3, .inl f3))] := hD
    refine W.widen (k := 0) (n := 0) (Nat.le_of_ble_eq_true rfl) (Nat.le_of_ble_eq_true rfl) ?_
    obtain rfl : r1 = (-1) := iv_one w2 (by decide)
    have hP9 := hP.sub (ws' := [(m0, .inr (11, oX11 ra y45_0)), (ra 2, .inl (kI, 8, .inl q_told)), (ra 12, .inl (kI, 3, .inl f3)), (ra 22, .inl (kI, 8, .inl q_notedPort)), (ra 23, .inl (kI, 8, .inl q_notedGoal)), (ra 24, .inl (kI, 8, .inl q_notedHop)), (ra 25, .inl (kI, 8, .inl q_notedAddress))]) [5, 0, 6, 1, 2, 3, 4] rfl
    have hD9 := hD.sub (ws' := [(m0, .inr (11, oX11 ra y45_0)), (ra 2, .inl (kI, 8, .inl q_told)), (ra 12, .inl (kI, 3, .inl f3)), (ra 22, .inl (kI, 8, .inl q_notedPort)), (ra 23, .inl (kI, 8, .inl q_notedGoal)), (ra 24, .inl (kI, 8, .inl q_notedHop)), (ra 25, .inl (kI, 8, .inl q_notedAddress))]) [5, 0, 6, 1, 2, 3, 4] (by decide +kernel) rfl
    exact W.iret (v := (-1)) hx hb hr (fun t ht hW => ⟨⟨(-1), (), rfl, (iv_w (iv_k (by decide) (by decide) : iv (-1) (-1) (-1)) (by decide) (by decide)), y45_0, f3, q_notedPort, q_notedGoal, q_notedHop, q_notedAddress, hI45_0, hq_notedPort, hq_notedGoal, by rw [ht]; exact hP9, hD9⟩, hS.F ht⟩) hS.2.2 dX11_note_50
  refine lv_aload_n hx hb dX11_note_0 rfl (lv_at hl 0 rfl) ?_
  refine lv_iconst (v := 0) hx hb dX11_note_1 (by decide) ?_
  refine va_put (D := (dC, dI)) (ci := 11) (v := .int 0) (ty := .int) (C := RX11) (T := TX11) (N := 61) hx hb hts hin11 tyX11 tyX11_ok nmX11 hown hK hP hD hS 0 rfl rfl 2 (by decide) hw_0 (fun _ h9 => h9) rfl (by decide +kernel) rfl rfl (Nat.le_of_ble_eq_true rfl) dX11_note_2 (fun H locs hP hD hS => ?_)
  have hP : va_P (dC, dI) vwCl [(m0, .inr (11, oX11 ra (upd x0 0 0))), (ra 2, .inl (kI, 8, .inl q_told)), (ra 12, .inl (kI, 3, .inl q_status)), (ra 22, .inl (kI, 8, .inl q_notedPort)), (ra 23, .inl (kI, 8, .inl q_notedGoal)), (ra 24, .inl (kI, 8, .inl q_notedHop)), (ra 25, .inl (kI, 8, .inl q_notedAddress))] H := hP
  have hD : va_D A [(m0, .inr (11, oX11 ra (upd x0 0 0))), (ra 2, .inl (kI, 8, .inl q_told)), (ra 12, .inl (kI, 3, .inl q_status)), (ra 22, .inl (kI, 8, .inl q_notedPort)), (ra 23, .inl (kI, 8, .inl q_notedGoal)), (ra 24, .inl (kI, 8, .inl q_notedHop)), (ra 25, .inl (kI, 8, .inl q_notedAddress))] := hD
  refine lv_aload_n hx hb dX11_note_5 rfl (lv_at hl 0 rfl) ?_
  refine va_get (D := (dC, dI)) (ci := 11) (v := .int (x0 21)) (C := RX11) (T := TX11) (N := 61) hx hb hts hin11 hown hK hP 0 rfl rfl 43 (by decide) hw_1 (fun _ h9 => h9) rfl dX11_note_6 ?_
  refine lv_bipush (v := 8) hx hb dX11_note_9 (by decide) ?_
  refine lv_icmp_eq (tgt := 45) hx hb dX11_note_11 (by decide) (fun c4 => ?_) (fun c4 => ?_)
  · have b5 : iv 8 8 (x0 21) := iv_eqL c4 (iv_k (by decide) (by decide) : iv 8 8 8)
    exact hJ45 (upd x0 0 0) _ _ _ ((fI_u hX (k := 0) ((iv_w (iv_k (by decide) (by decide) : iv 0 0 0) (by decide) (by decide))))) ((iv_k (by decide) (by decide) : iv 0 0 0)) (hP.sub [0, 1, 2, 3, 4, 5, 6] rfl) (hD.sub [0, 1, 2, 3, 4, 5, 6] (by decide +kernel) rfl) hS (lv_sub hl [0, 1, 2, 3, 4] rfl)
  · have b6 : iv 0 7 (x0 21) := iv_neHi c4 (hX 21 : iv 0 8 (x0 21)) (iv_k (by decide) (by decide) : iv 8 8 8) (by decide) (by decide)
    refine lv_iload_n hx hb dX11_note_14 rfl (lv_at hl 1 rfl) ?_
    have hPc := hP.sub (ws' := []) [] rfl
    have hDc := hD.sub (ws' := []) [] (by decide +kernel) rfl
    have hFc := va_free (wc := []) hD hS hA [] rfl
    refine va_calli (va_runS (As := [.int p0]) (rest := []) ⟨hx, hb, hml, hown, hts⟩ (s11_isPort l dC dI kB kI kJ kZ kC kS H.size p0) (va_cwS 1 hts gX11_note_X11_isPort rfl rfl rfl (by decide +kernel) ⟨Nat.le_of_ble_eq_true rfl, Nat.le_of_ble_eq_true rfl⟩) ⟨fun a U g mk q => by obtain ⟨q0, q1, qP, qE, qD⟩ := q; exact ⟨q0, q1, qP, kE_call qE, qD⟩, fun U hU hW => ⟨rfl, by rw [hU], by rw [hU]; exact hPc, kE_warm hW hE, hDc.weaken (fun _ _ _ _ => trivial)⟩⟩ rfl rfl hl.1 rfl (lv_room (Nat.le_of_ble_eq_true rfl)) dX11_note_15 ⟨Nat.le_of_ble_eq_true rfl, Nat.le_of_ble_eq_true rfl⟩) hS (fun q _ h => hFc q h) hFc (fun r7 u t H1 locs ht hvm w8 hB hz1 hk1 hS => ?_)
    obtain ⟨hP1, hD1⟩ := hB
    rw [ht] at hP1
    try dsimp only at w8
    obtain ⟨hP, hD⟩ := va_join (wr := [(m0, .inr (11, oX11 ra (upd x0 0 0))), (ra 2, .inl (kI, 8, .inl q_told)), (ra 12, .inl (kI, 3, .inl q_status)), (ra 22, .inl (kI, 8, .inl q_notedPort)), (ra 23, .inl (kI, 8, .inl q_notedGoal)), (ra 24, .inl (kI, 8, .inl q_notedHop)), (ra 25, .inl (kI, 8, .inl q_notedAddress))]) (w1 := []) hP hD [] [0, 1, 2, 3, 4, 5, 6] rfl rfl (by decide +kernel) (by decide +kernel) hk1 hFc hP1 hD1
    generalize H1 = H at hP hS ⊢
    have hP : va_P (dC, dI) vwCl [(m0, .inr (11, oX11 ra (upd x0 0 0))), (ra 2, .inl (kI, 8, .inl q_told)), (ra 12, .inl (kI, 3, .inl q_status)), (ra 22, .inl (kI, 8, .inl q_notedPort)), (ra 23, .inl (kI, 8, .inl q_notedGoal)), (ra 24, .inl (kI, 8, .inl q_notedHop)), (ra 25, .inl (kI, 8, .inl q_notedAddress))] H := hP
    have hD : va_D A [(m0, .inr (11, oX11 ra (upd x0 0 0))), (ra 2, .inl (kI, 8, .inl q_told)), (ra 12, .inl (kI, 3, .inl q_status)), (ra 22, .inl (kI, 8, .inl q_notedPort)), (ra 23, .inl (kI, 8, .inl q_notedGoal)), (ra 24, .inl (kI, 8, .inl q_notedHop)), (ra 25, .inl (kI, 8, .inl q_notedAddress))] := hD
    refine W.widen (k := 0) (n := 0) (Nat.le_of_ble_eq_true rfl) (Nat.le_of_ble_eq_true rfl) ?_
    refine lv_if_eq (tgt := 45) hx hb dX11_note_18 (by decide) (fun c9 => ?_) (fun c9 => ?_)
    · have b10 : iv 0 0 r7 := iv_eqL c9 (iv_k (by decide) (by decide) : iv 0 0 0)
      exact hJ45 (upd x0 0 0) _ _ _ ((fI_u hX (k := 0) ((iv_w (iv_k (by decide) (by decide) : iv 0 0 0) (by decide) (by decide))))) ((iv_k (by decide) (by decide) : iv 0 0 0)) (hP.sub [0, 1, 2, 3, 4, 5, 6] rfl) (hD.sub [0, 1, 2, 3, 4, 5, 6] (by decide +kernel) rfl) hS (lv_sub hl [0, 1, 2, 3, 4] rfl)
    · have b11 : iv 1 1 r7 := iv_neLo c9 w8.1 (iv_k (by decide) (by decide) : iv 0 0 0) (by decide) (by decide)
      have b12 : iv 0 31 p0 := (w8.2).resolve_left (iv_ne b11 (iv_k (by decide) (by decide) : iv 0 0 0) (by decide))
      refine lv_aload_n hx hb dX11_note_21 rfl (lv_at hl 0 rfl) ?_
      refine lv_iload_n hx hb dX11_note_22 rfl (lv_at hl 2 rfl) ?_
      have hPc := hP.sub (ws' := [(m0, .inr (11, oX11 ra (upd x0 0 0))), (ra 2, .inl (kI, 8, .inl q_told))]) [0, 1] rfl
      have hDc := hD.sub (ws' := [(m0, .inr (11, oX11 ra (upd x0 0 0))), (ra 2, .inl (kI, 8, .inl q_told))]) [0, 1] (by decide +kernel) rfl
      have hFc := va_free (wc := [(m0, .inr (11, oX11 ra (upd x0 0 0))), (ra 2, .inl (kI, 8, .inl q_told))]) hD hS hA [0, 1] rfl
      refine va_calli (va_runV (As := [.int p1]) (rest := []) ⟨hx, hb, hml, hown, hts⟩ (s11_isGoal l dC dI kB kI kJ kZ kC kS H.size m0 ra (upd x0 0 0) q_told p1 ((fI_u hX (k := 0) ((iv_w (iv_k (by decide) (by decide) : iv 0 0 0) (by decide) (by decide))))) (hq_told)) (cwV 1 hts gX11_note_X11_isGoal rfl rfl rfl (by decide +kernel) ⟨Nat.le_of_ble_eq_true rfl, Nat.le_of_ble_eq_true rfl⟩) ⟨fun a U g mk q => by obtain ⟨q0, q1, qP, qE, qD⟩ := q; exact ⟨q0, q1, qP, kE_call qE, qD⟩, va_recv hK hP (ci := 11) (q0 := 0) rfl rfl, fun U hU hW => ⟨rfl, by rw [hU], by rw [hU]; exact hPc, kE_warm hW hE, hDc.weaken (fun _ _ _ _ => trivial)⟩⟩ rfl rfl hl.1 rfl (lv_room (Nat.le_of_ble_eq_true rfl)) dX11_note_23 ⟨Nat.le_of_ble_eq_true rfl, Nat.le_of_ble_eq_true rfl⟩) hS (fun q _ h => hFc q h) hFc (fun r13 u t H1 locs ht hvm w14 hB hz1 hk1 hS => ?_)
      obtain ⟨hP1, hD1⟩ := hB
      rw [ht] at hP1
      try dsimp only at w14
      obtain ⟨hP, hD⟩ := va_join (wr := [(ra 12, .inl (kI, 3, .inl q_status)), (ra 22, .inl (kI, 8, .inl q_notedPort)), (ra 23, .inl (kI, 8, .inl q_notedGoal)), (ra 24, .inl (kI, 8, .inl q_notedHop)), (ra 25, .inl (kI, 8, .inl q_notedAddress))]) (w1 := [(m0, .inr (11, oX11 ra (upd x0 0 0))), (ra 2, .inl (kI, 8, .inl q_told))]) hP hD [0, 1] [2, 3, 4, 5, 6] rfl rfl (by decide +kernel) (by decide +kernel) hk1 hFc hP1 hD1
      generalize H1 = H at hP hS ⊢
      have hP : va_P (dC, dI) vwCl [(ra 12, .inl (kI, 3, .inl q_status)), (ra 22, .inl (kI, 8, .inl q_notedPort)), (ra 23, .inl (kI, 8, .inl q_notedGoal)), (ra 24, .inl (kI, 8, .inl q_notedHop)), (ra 25, .inl (kI, 8, .inl q_notedAddress)), (m0, .inr (11, oX11 ra (upd x0 0 0))), (ra 2, .inl (kI, 8, .inl q_told))] H := hP
      have hD : va_D A [(ra 12, .inl (kI, 3, .inl q_status)), (ra 22, .inl (kI, 8, .inl q_notedPort)), (ra 23, .inl (kI, 8, .inl q_notedGoal)), (ra 24, .inl (kI, 8, .inl q_notedHop)), (ra 25, .inl (kI, 8, .inl q_notedAddress)), (m0, .inr (11, oX11 ra (upd x0 0 0))), (ra 2, .inl (kI, 8, .inl q_told))] := hD
      refine W.widen (k := 0) (n := 0) (Nat.le_of_ble_eq_true rfl) (Nat.le_of_ble_eq_true rfl) ?_
      refine lv_if_eq (tgt := 45) hx hb dX11_note_26 (by decide) (fun c15 => ?_) (fun c15 => ?_)
      · have b16 : iv 0 0 r13 := iv_eqL c15 (iv_k (by decide) (by decide) : iv 0 0 0)
        exact hJ45 (upd x0 0 0) _ _ _ ((fI_u hX (k := 0) ((iv_w (iv_k (by decide) (by decide) : iv 0 0 0) (by decide) (by decide))))) ((iv_k (by decide) (by decide) : iv 0 0 0)) (hP.sub [5, 6, 0, 1, 2, 3, 4] rfl) (hD.sub [5, 6, 0, 1, 2, 3, 4] (by decide +kernel) rfl) hS (lv_sub hl [0, 1, 2, 3, 4] rfl)
      · have b17 : iv 1 1 r13 := iv_neLo c15 w14.1 (iv_k (by decide) (by decide) : iv 0 0 0) (by decide) (by decide)
        have b18 : iv 0 2 p1 := (w14.2).resolve_left (iv_ne b17 (iv_k (by decide) (by decide) : iv 0 0 0) (by decide))
        refine lv_iload_n hx hb dX11_note_29 rfl (lv_at hl 3 rfl) ?_
        have hPc := hP.sub (ws' := []) [] rfl
        have hDc := hD.sub (ws' := []) [] (by decide +kernel) rfl
        have hFc := va_free (wc := []) hD hS hA [] rfl
        refine va_calli (va_runS (As := [.int p2]) (rest := []) ⟨hx, hb, hml, hown, hts⟩ (s11_isHop l dC dI kB kI kJ kZ kC kS H.size p2) (va_cwS 1 hts gX11_note_X11_isHop rfl rfl rfl (by decide +kernel) ⟨Nat.le_of_ble_eq_true rfl, Nat.le_of_ble_eq_true rfl⟩) ⟨fun a U g mk q => by obtain ⟨q0, q1, qP, qE, qD⟩ := q; exact ⟨q0, q1, qP, kE_call qE, qD⟩, fun U hU hW => ⟨rfl, by rw [hU], by rw [hU]; exact hPc, kE_warm hW hE, hDc.weaken (fun _ _ _ _ => trivial)⟩⟩ rfl rfl hl.1 rfl (lv_room (Nat.le_of_ble_eq_true rfl)) dX11_note_30 ⟨Nat.le_of_ble_eq_true rfl, Nat.le_of_ble_eq_true rfl⟩) hS (fun q _ h => hFc q h) hFc (fun r19 u t H1 locs ht hvm w20 hB hz1 hk1 hS => ?_)
        obtain ⟨hP1, hD1⟩ := hB
        rw [ht] at hP1
        try dsimp only at w20
        obtain ⟨hP, hD⟩ := va_join (wr := [(ra 12, .inl (kI, 3, .inl q_status)), (ra 22, .inl (kI, 8, .inl q_notedPort)), (ra 23, .inl (kI, 8, .inl q_notedGoal)), (ra 24, .inl (kI, 8, .inl q_notedHop)), (ra 25, .inl (kI, 8, .inl q_notedAddress)), (m0, .inr (11, oX11 ra (upd x0 0 0))), (ra 2, .inl (kI, 8, .inl q_told))]) (w1 := []) hP hD [] [0, 1, 2, 3, 4, 5, 6] rfl rfl (by decide +kernel) (by decide +kernel) hk1 hFc hP1 hD1
        generalize H1 = H at hP hS ⊢
        have hP : va_P (dC, dI) vwCl [(ra 12, .inl (kI, 3, .inl q_status)), (ra 22, .inl (kI, 8, .inl q_notedPort)), (ra 23, .inl (kI, 8, .inl q_notedGoal)), (ra 24, .inl (kI, 8, .inl q_notedHop)), (ra 25, .inl (kI, 8, .inl q_notedAddress)), (m0, .inr (11, oX11 ra (upd x0 0 0))), (ra 2, .inl (kI, 8, .inl q_told))] H := hP
        have hD : va_D A [(ra 12, .inl (kI, 3, .inl q_status)), (ra 22, .inl (kI, 8, .inl q_notedPort)), (ra 23, .inl (kI, 8, .inl q_notedGoal)), (ra 24, .inl (kI, 8, .inl q_notedHop)), (ra 25, .inl (kI, 8, .inl q_notedAddress)), (m0, .inr (11, oX11 ra (upd x0 0 0))), (ra 2, .inl (kI, 8, .inl q_told))] := hD
        refine W.widen (k := 0) (n := 0) (Nat.le_of_ble_eq_true rfl) (Nat.le_of_ble_eq_true rfl) ?_
        refine lv_if_eq (tgt := 45) hx hb dX11_note_33 (by decide) (fun c21 => ?_) (fun c21 => ?_)
        · have b22 : iv 0 0 r19 := iv_eqL c21 (iv_k (by decide) (by decide) : iv 0 0 0)
          exact hJ45 (upd x0 0 0) _ _ _ ((fI_u hX (k := 0) ((iv_w (iv_k (by decide) (by decide) : iv 0 0 0) (by decide) (by decide))))) ((iv_k (by decide) (by decide) : iv 0 0 0)) (hP.sub [5, 6, 0, 1, 2, 3, 4] rfl) (hD.sub [5, 6, 0, 1, 2, 3, 4] (by decide +kernel) rfl) hS (lv_sub hl [0, 1, 2, 3, 4] rfl)
        · have b23 : iv 1 1 r19 := iv_neLo c21 w20.1 (iv_k (by decide) (by decide) : iv 0 0 0) (by decide) (by decide)
          have b24 : iv 1 10 p2 := (w20.2).resolve_left (iv_ne b23 (iv_k (by decide) (by decide) : iv 0 0 0) (by decide))
          refine lv_aload_n hx hb dX11_note_36 rfl (lv_at hl 0 rfl) ?_
          refine lv_iload hx hb dX11_note_37 (lv_at hl 4 rfl) ?_
          have hPc := hP.sub (ws' := [(m0, .inr (11, oX11 ra (upd x0 0 0))), (ra 2, .inl (kI, 8, .inl q_told))]) [5, 6] rfl
          have hDc := hD.sub (ws' := [(m0, .inr (11, oX11 ra (upd x0 0 0))), (ra 2, .inl (kI, 8, .inl q_told))]) [5, 6] (by decide +kernel) rfl
          have hFc := va_free (wc := [(m0, .inr (11, oX11 ra (upd x0 0 0))), (ra 2, .inl (kI, 8, .inl q_told))]) hD hS hA [5, 6] rfl
          refine va_calli (va_runV (As := [.int p3]) (rest := []) ⟨hx, hb, hml, hown, hts⟩ (s11_isAddress l dC dI kB kI kJ kZ kC kS H.size m0 ra (upd x0 0 0) q_told p3 ((fI_u hX (k := 0) ((iv_w (iv_k (by decide) (by decide) : iv 0 0 0) (by decide) (by decide))))) (hq_told)) (cwV 1 hts gX11_note_X11_isAddress rfl rfl rfl (by decide +kernel) ⟨Nat.le_of_ble_eq_true rfl, Nat.le_of_ble_eq_true rfl⟩) ⟨fun a U g mk q => by obtain ⟨q0, q1, qP, qE, qD⟩ := q; exact ⟨q0, q1, qP, kE_call qE, qD⟩, va_recv hK hP (ci := 11) (q0 := 5) rfl rfl, fun U hU hW => ⟨rfl, by rw [hU], by rw [hU]; exact hPc, kE_warm hW hE, hDc.weaken (fun _ _ _ _ => trivial)⟩⟩ rfl rfl hl.1 rfl (lv_room (Nat.le_of_ble_eq_true rfl)) dX11_note_39 ⟨Nat.le_of_ble_eq_true rfl, Nat.le_of_ble_eq_true rfl⟩) hS (fun q _ h => hFc q h) hFc (fun r25 u t H1 locs ht hvm w26 hB hz1 hk1 hS => ?_)
          obtain ⟨hP1, hD1⟩ := hB
          rw [ht] at hP1
          try dsimp only at w26
          obtain ⟨hP, hD⟩ := va_join (wr := [(ra 12, .inl (kI, 3, .inl q_status)), (ra 22, .inl (kI, 8, .inl q_notedPort)), (ra 23, .inl (kI, 8, .inl q_notedGoal)), (ra 24, .inl (kI, 8, .inl q_notedHop)), (ra 25, .inl (kI, 8, .inl q_notedAddress))]) (w1 := [(m0, .inr (11, oX11 ra (upd x0 0 0))), (ra 2, .inl (kI, 8, .inl q_told))]) hP hD [5, 6] [0, 1, 2, 3, 4] rfl rfl (by decide +kernel) (by decide +kernel) hk1 hFc hP1 hD1
          generalize H1 = H at hP hS ⊢
          have hP : va_P (dC, dI) vwCl [(ra 12, .inl (kI, 3, .inl q_status)), (ra 22, .inl (kI, 8, .inl q_notedPort)), (ra 23, .inl (kI, 8, .inl q_notedGoal)), (ra 24, .inl (kI, 8, .inl q_notedHop)), (ra 25, .inl (kI, 8, .inl q_notedAddress)), (m0, .inr (11, oX11 ra (upd x0 0 0))), (ra 2, .inl (kI, 8, .inl q_told))] H := hP
          have hD : va_D A [(ra 12, .inl (kI, 3, .inl q_status)), (ra 22, .inl (kI, 8, .inl q_notedPort)), (ra 23, .inl (kI, 8, .inl q_notedGoal)), (ra 24, .inl (kI, 8, .inl q_notedHop)), (ra 25, .inl (kI, 8, .inl q_notedAddress)), (m0, .inr (11, oX11 ra (upd x0 0 0))), (ra 2, .inl (kI, 8, .inl q_told))] := hD
          refine W.widen (k := 0) (n := 0) (Nat.le_of_ble_eq_true rfl) (Nat.le_of_ble_eq_true rfl) ?_
          refine lv_if_ne (tgt := 51) hx hb dX11_note_42 (by decide) (fun c27 => ?_) (fun c27 => ?_)
          · have b28 : iv 1 1 r25 := iv_neLo c27 w26.1 (iv_k (by decide) (by decide) : iv 0 0 0) (by decide) (by decide)
            have b29 : iv 0 20 p3 := (w26.2).resolve_left (iv_ne b28 (iv_k (by decide) (by decide) : iv 0 0 0) (by decide))
            refine lv_aload_n hx hb dX11_note_51 rfl (lv_at hl 0 rfl) ?_
            refine va_get (D := (dC, dI)) (ci := 11) (v := .ref (ra 22)) (C := RX11) (T := TX11) (N := 61) hx hb hts hin11 hown hK hP 5 rfl rfl 44 (by decide) hw_2 (fun _ h9 => h9) rfl dX11_note_52 ?_
            refine lv_aload_n hx hb dX11_note_55 rfl (lv_at hl 0 rfl) ?_
            refine va_get (D := (dC, dI)) (ci := 11) (v := .int (x0 21)) (C := RX11) (T := TX11) (N := 61) hx hb hts hin11 hown hK hP 5 rfl rfl 43 (by decide) hw_1 (fun _ h9 => h9) rfl dX11_note_56 ?_
            refine lv_iload_n hx hb dX11_note_59 rfl (lv_at hl 1 rfl) ?_
            refine va_iast hx hb hK hP hD hS 1 1 rfl rfl (iv_in b6 (by decide) (by decide)) dX11_note_60 (fun H locs hP hD hS => ?_)
            have hP : va_P (dC, dI) vwCl [(ra 12, .inl (kI, 3, .inl q_status)), (ra 22, .inl (kI, 8, .inl (upd q_notedPort (x0 21).toNatClampNeg p0))), (ra 23, .inl (kI, 8, .inl q_notedGoal)), (ra 24, .inl (kI, 8, .inl q_notedHop)), (ra 25, .inl (kI, 8, .inl q_notedAddress)), (m0, .inr (11, oX11 ra (upd x0 0 0))), (ra 2, .inl (kI, 8, .inl q_told))] H := hP
            have hD : va_D A [(ra 12, .inl (kI, 3, .inl q_status)), (ra 22, .inl (kI, 8, .inl (upd q_notedPort (x0 21).toNatClampNeg p0))), (ra 23, .inl (kI, 8, .inl q_notedGoal)), (ra 24, .inl (kI, 8, .inl q_notedHop)), (ra 25, .inl (kI, 8, .inl q_notedAddress)), (m0, .inr (11, oX11 ra (upd x0 0 0))), (ra 2, .inl (kI, 8, .inl q_told))] := hD
            have hf31 : fI (fun _ => 0) (fun _ => 31) (upd q_notedPort (x0 21).toNatClampNeg p0) := fI_u hq_notedPort (k := (x0 21).toNatClampNeg) (b12)
            generalize (upd q_notedPort (x0 21).toNatClampNeg p0) = f30 at hP hD hf31
            refine lv_aload_n hx hb dX11_note_61 rfl (lv_at hl 0 rfl) ?_
            refine va_get (D := (dC, dI)) (ci := 11) (v := .ref (ra 23)) (C := RX11) (T := TX11) (N := 61) hx hb hts hin11 hown hK hP 5 rfl rfl 45 (by decide) hw_3 (fun _ h9 => h9) rfl dX11_note_62 ?_
            refine lv_aload_n hx hb dX11_note_65 rfl (lv_at hl 0 rfl) ?_
            refine va_get (D := (dC, dI)) (ci := 11) (v := .int (x0 21)) (C := RX11) (T := TX11) (N := 61) hx hb hts hin11 hown hK hP 5 rfl rfl 43 (by decide) hw_1 (fun _ h9 => h9) rfl dX11_note_66 ?_
            refine lv_iload_n hx hb dX11_note_69 rfl (lv_at hl 2 rfl) ?_
            refine va_iast hx hb hK hP hD hS 2 1 rfl rfl (iv_in b6 (by decide) (by decide)) dX11_note_70 (fun H locs hP hD hS => ?_)
            have hP : va_P (dC, dI) vwCl [(ra 12, .inl (kI, 3, .inl q_status)), (ra 22, .inl (kI, 8, .inl f30)), (ra 23, .inl (kI, 8, .inl (upd q_notedGoal (x0 21).toNatClampNeg p1))), (ra 24, .inl (kI, 8, .inl q_notedHop)), (ra 25, .inl (kI, 8, .inl q_notedAddress)), (m0, .inr (11, oX11 ra (upd x0 0 0))), (ra 2, .inl (kI, 8, .inl q_told))] H := hP
            have hD : va_D A [(ra 12, .inl (kI, 3, .inl q_status)), (ra 22, .inl (kI, 8, .inl f30)), (ra 23, .inl (kI, 8, .inl (upd q_notedGoal (x0 21).toNatClampNeg p1))), (ra 24, .inl (kI, 8, .inl q_notedHop)), (ra 25, .inl (kI, 8, .inl q_notedAddress)), (m0, .inr (11, oX11 ra (upd x0 0 0))), (ra 2, .inl (kI, 8, .inl q_told))] := hD
            have hf33 : fI (fun _ => 0) (fun _ => 2) (upd q_notedGoal (x0 21).toNatClampNeg p1) := fI_u hq_notedGoal (k := (x0 21).toNatClampNeg) (b18)
            generalize (upd q_notedGoal (x0 21).toNatClampNeg p1) = f32 at hP hD hf33
            refine lv_aload_n hx hb dX11_note_71 rfl (lv_at hl 0 rfl) ?_
            refine va_get (D := (dC, dI)) (ci := 11) (v := .ref (ra 24)) (C := RX11) (T := TX11) (N := 61) hx hb hts hin11 hown hK hP 5 rfl rfl 46 (by decide) hw_4 (fun _ h9 => h9) rfl dX11_note_72 ?_
            refine lv_aload_n hx hb dX11_note_75 rfl (lv_at hl 0 rfl) ?_
            refine va_get (D := (dC, dI)) (ci := 11) (v := .int (x0 21)) (C := RX11) (T := TX11) (N := 61) hx hb hts hin11 hown hK hP 5 rfl rfl 43 (by decide) hw_1 (fun _ h9 => h9) rfl dX11_note_76 ?_
            refine lv_iload_n hx hb dX11_note_79 rfl (lv_at hl 3 rfl) ?_
            refine va_iast hx hb hK hP hD hS 3 1 rfl rfl (iv_in b6 (by decide) (by decide)) dX11_note_80 (fun H locs hP hD hS => ?_)
            have hP : va_P (dC, dI) vwCl [(ra 12, .inl (kI, 3, .inl q_status)), (ra 22, .inl (kI, 8, .inl f30)), (ra 23, .inl (kI, 8, .inl f32)), (ra 24, .inl (kI, 8, .inl (upd q_notedHop (x0 21).toNatClampNeg p2))), (ra 25, .inl (kI, 8, .inl q_notedAddress)), (m0, .inr (11, oX11 ra (upd x0 0 0))), (ra 2, .inl (kI, 8, .inl q_told))] H := hP
            have hD : va_D A [(ra 12, .inl (kI, 3, .inl q_status)), (ra 22, .inl (kI, 8, .inl f30)), (ra 23, .inl (kI, 8, .inl f32)), (ra 24, .inl (kI, 8, .inl (upd q_notedHop (x0 21).toNatClampNeg p2))), (ra 25, .inl (kI, 8, .inl q_notedAddress)), (m0, .inr (11, oX11 ra (upd x0 0 0))), (ra 2, .inl (kI, 8, .inl q_told))] := hD
            generalize (upd q_notedHop (x0 21).toNatClampNeg p2) = f34 at hP hD
            refine lv_aload_n hx hb dX11_note_81 rfl (lv_at hl 0 rfl) ?_
            refine va_get (D := (dC, dI)) (ci := 11) (v := .ref (ra 25)) (C := RX11) (T := TX11) (N := 61) hx hb hts hin11 hown hK hP 5 rfl rfl 47 (by decide) hw_5 (fun _ h9 => h9) rfl dX11_note_82 ?_
            refine lv_aload_n hx hb dX11_note_85 rfl (lv_at hl 0 rfl) ?_
            refine va_get (D := (dC, dI)) (ci := 11) (v := .int (x0 21)) (C := RX11) (T := TX11) (N := 61) hx hb hts hin11 hown hK hP 5 rfl rfl 43 (by decide) hw_1 (fun _ h9 => h9) rfl dX11_note_86 ?_
            refine lv_iload hx hb dX11_note_89 (lv_at hl 4 rfl) ?_
            refine va_iast hx hb hK hP hD hS 4 1 rfl rfl (iv_in b6 (by decide) (by decide)) dX11_note_91 (fun H locs hP hD hS => ?_)
            have hP : va_P (dC, dI) vwCl [(ra 12, .inl (kI, 3, .inl q_status)), (ra 22, .inl (kI, 8, .inl f30)), (ra 23, .inl (kI, 8, .inl f32)), (ra 24, .inl (kI, 8, .inl f34)), (ra 25, .inl (kI, 8, .inl (upd q_notedAddress (x0 21).toNatClampNeg p3))), (m0, .inr (11, oX11 ra (upd x0 0 0))), (ra 2, .inl (kI, 8, .inl q_told))] H := hP
            have hD : va_D A [(ra 12, .inl (kI, 3, .inl q_status)), (ra 22, .inl (kI, 8, .inl f30)), (ra 23, .inl (kI, 8, .inl f32)), (ra 24, .inl (kI, 8, .inl f34)), (ra 25, .inl (kI, 8, .inl (upd q_notedAddress (x0 21).toNatClampNeg p3))), (m0, .inr (11, oX11 ra (upd x0 0 0))), (ra 2, .inl (kI, 8, .inl q_told))] := hD
            generalize (upd q_notedAddress (x0 21).toNatClampNeg p3) = f35 at hP hD
            refine lv_aload_n hx hb dX11_note_92 rfl (lv_at hl 0 rfl) ?_
            refine lv_dup hx hb dX11_note_93 rfl ?_
            refine va_get (D := (dC, dI)) (ci := 11) (v := .int (x0 21)) (C := RX11) (T := TX11) (N := 61) hx hb hts hin11 hown hK hP 5 rfl rfl 43 (by decide) hw_1 (fun _ h9 => h9) rfl dX11_note_94 ?_
            refine lv_iconst (v := 1) hx hb dX11_note_97 (by decide) ?_
            refine lv_iadd hx hb dX11_note_98 ?_
            refine iv_top (a := 1) (b := 8) (iv_add b6 (iv_k (by decide) (by decide) : iv 1 1 1) (by decide) (by decide) (by decide) (by decide)) (fun z36 b37 => ?_)
            refine va_put (D := (dC, dI)) (ci := 11) (v := .int z36) (ty := .int) (C := RX11) (T := TX11) (N := 61) hx hb hts hin11 tyX11 tyX11_ok nmX11 hown hK hP hD hS 5 rfl rfl 43 (by decide) hw_1 (fun _ h9 => h9) rfl (by decide +kernel) rfl rfl (Nat.le_of_ble_eq_true rfl) dX11_note_99 (fun H locs hP hD hS => ?_)
            have hP : va_P (dC, dI) vwCl [(ra 12, .inl (kI, 3, .inl q_status)), (ra 22, .inl (kI, 8, .inl f30)), (ra 23, .inl (kI, 8, .inl f32)), (ra 24, .inl (kI, 8, .inl f34)), (ra 25, .inl (kI, 8, .inl f35)), (m0, .inr (11, oX11 ra (upd (upd x0 0 0) 21 z36))), (ra 2, .inl (kI, 8, .inl q_told))] H := hP
            have hD : va_D A [(ra 12, .inl (kI, 3, .inl q_status)), (ra 22, .inl (kI, 8, .inl f30)), (ra 23, .inl (kI, 8, .inl f32)), (ra 24, .inl (kI, 8, .inl f34)), (ra 25, .inl (kI, 8, .inl f35)), (m0, .inr (11, oX11 ra (upd (upd x0 0 0) 21 z36))), (ra 2, .inl (kI, 8, .inl q_told))] := hD
            refine lv_aload_n hx hb dX11_note_102 rfl (lv_at hl 0 rfl) ?_
            refine va_get (D := (dC, dI)) (ci := 11) (v := .int z36) (C := RX11) (T := TX11) (N := 61) hx hb hts hin11 hown hK hP 5 rfl rfl 43 (by decide) hw_1 (fun _ h9 => h9) rfl dX11_note_103 ?_
            have hP9 := hP.sub (ws' := [(m0, .inr (11, oX11 ra (upd (upd x0 0 0) 21 z36))), (ra 2, .inl (kI, 8, .inl q_told)), (ra 12, .inl (kI, 3, .inl q_status)), (ra 22, .inl (kI, 8, .inl f30)), (ra 23, .inl (kI, 8, .inl f32)), (ra 24, .inl (kI, 8, .inl f34)), (ra 25, .inl (kI, 8, .inl f35))]) [5, 6, 0, 1, 2, 3, 4] rfl
            have hD9 := hD.sub (ws' := [(m0, .inr (11, oX11 ra (upd (upd x0 0 0) 21 z36))), (ra 2, .inl (kI, 8, .inl q_told)), (ra 12, .inl (kI, 3, .inl q_status)), (ra 22, .inl (kI, 8, .inl f30)), (ra 23, .inl (kI, 8, .inl f32)), (ra 24, .inl (kI, 8, .inl f34)), (ra 25, .inl (kI, 8, .inl f35))]) [5, 6, 0, 1, 2, 3, 4] (by decide +kernel) rfl
            exact W.iret (v := z36) hx hb hr (fun t ht hW => ⟨⟨z36, (), rfl, (iv_w b37 (by decide) (by decide)), upd (upd x0 0 0) 21 z36, q_status, f30, f32, f34, f35, (fI_u (fI_u hX (k := 0) ((iv_w (iv_k (by decide) (by decide) : iv 0 0 0) (by decide) (by decide)))) (k := 21) ((iv_w b37 (by decide) (by decide)))), hf31, hf33, by rw [ht]; exact hP9, hD9⟩, hS.F ht⟩) hS.2.2 dX11_note_106
          · have b38 : iv 0 0 r25 := iv_eqL c27 (iv_k (by decide) (by decide) : iv 0 0 0)
            exact hJ45 (upd x0 0 0) _ _ _ ((fI_u hX (k := 0) ((iv_w (iv_k (by decide) (by decide) : iv 0 0 0) (by decide) (by decide))))) ((iv_k (by decide) (by decide) : iv 0 0 0)) (hP.sub [5, 6, 0, 1, 2, 3, 4] rfl) (hD.sub [5, 6, 0, 1, 2, 3, 4] (by decide +kernel) rfl) hS (lv_sub hl [0, 1, 2, 3, 4] rfl)
def rm_s11_forget : Room := { frames := 0, cells := 0, slots := 0, locals := 0 }
set_option maxHeartbeats 4000000 in
set_option maxRecDepth 100000 in
theorem s11_forget (l : Launch) (dC : Nat → ClassId) (dI : Nat → Nat → Nat) (kB kI kJ kZ kC kS : ClassId) (sz : Nat) (m0 : Nat) (ra : Nat → Nat) (x0 : Nat → Int32) (hX : fI lX11 hX11 x0) : Met l yX11_forget wsX11_forget rm_s11_forget (va_Pc [.ref m0] (fun U => U.heap.size = sz ∧ va_P (dC, dI) vwCl [(m0, .inr (11, oX11 ra x0))] U.heap ∧ kE dC dI kB kI kJ kZ kC kS U ∧ va_D (fun _ => True) [(m0, .inr (11, oX11 ra x0))])) (va_Qv (fun (_ : Unit) => True) (fun _ t => ∃ (x0' : Nat → Int32), fI lX11 hX11 x0' ∧ va_P (dC, dI) vwCl [(m0, .inr (11, oX11 ra x0'))] t.heap ∧ va_D (va_A [(m0, .inr (11, oX11 ra x0))] sz) [(m0, .inr (11, oX11 ra x0'))]) (va_A [(m0, .inr (11, oX11 ra x0))] sz)) 0 0 (va_A [(m0, .inr (11, oX11 ra x0))] sz) := by
  refine Met.ofW (cc := cX11_forget) (maxL := 1) (ret := none) (by decide) rfl ?_
  intro p e s m args0 below meth c s₁ B hml hv
  obtain ⟨hargs, hsz, hP, hE, hD0⟩ := hv
  have hx := B.exec
  have hb := B.bytes
  have hr := B.returns
  have hts := atoms_spec (ws := wsX11_forget) B.pre
  have hown : s.vm.findClass RX11 = some m.cls := findClass_of_methodNamed B.named
  have hlocks := B.notSynchronized
  have hK := hE.1
  have hin11 : ∀ w ∈ wsX110, w ∈ wsX11_forget := fun _ h9 => List.mem_cons_of_mem _ (List.mem_append_right _ h9)
  have hw_0 := hts (.fieldLink RX11 142 "PathProberModel" "code" "I") (List.mem_of_getElem? (i := 1) (by decide +kernel))
  have hw_1 := hts (.fieldLink RX11 253 "PathProberModel" "noted" "I") (List.mem_of_getElem? (i := 2) (by decide +kernel))
  subst hsz
  have hD := hD0.self (sz := s.heap.size)
  generalize hAe : va_A [(m0, .inr (11, oX11 ra x0))] s.heap.size = A at hD ⊢
  have hA : ∀ q : Nat, s.heap.size ≤ q → A q := fun q h => by rw [← hAe]; exact Or.inr h
  have hS : va_S A s.heap s.heap [] := va_S.rf
  have hP : va_P (dC, dI) vwCl [(m0, .inr (11, oX11 ra x0))] s.heap := hP
  have hl := lv_entry ([.ref m0]) (n := 1) (Nat.le_of_ble_eq_true rfl)
  have hla : entryFrame m args0 1 = entryFrame m ([.ref m0] : List Value).toArray 1 := by rw [hargs]
  rw [hla, lg_entry_eq]
  generalize (lg_sl ([.ref m0]) ++ List.replicate (1 - (lg_sl ([.ref m0])).length) Slot.unset).toArray = ls at hl ⊢
  have hl : lv_has ls 1 [(0, .ref m0)] := hl
  refine lv_aload_n hx hb dX11_forget_0 rfl (lv_at hl 0 rfl) ?_
  refine lv_iconst (v := 0) hx hb dX11_forget_1 (by decide) ?_
  refine va_put (D := (dC, dI)) (ci := 11) (v := .int 0) (ty := .int) (C := RX11) (T := TX11) (N := 61) hx hb hts hin11 tyX11 tyX11_ok nmX11 hown hK hP hD hS 0 rfl rfl 2 (by decide) hw_0 (fun _ h9 => h9) rfl (by decide +kernel) rfl rfl (Nat.le_of_ble_eq_true rfl) dX11_forget_2 (fun H locs hP hD hS => ?_)
  have hP : va_P (dC, dI) vwCl [(m0, .inr (11, oX11 ra (upd x0 0 0)))] H := hP
  have hD : va_D A [(m0, .inr (11, oX11 ra (upd x0 0 0)))] := hD
  refine lv_aload_n hx hb dX11_forget_5 rfl (lv_at hl 0 rfl) ?_
  refine lv_iconst (v := 0) hx hb dX11_forget_6 (by decide) ?_
  refine va_put (D := (dC, dI)) (ci := 11) (v := .int 0) (ty := .int) (C := RX11) (T := TX11) (N := 61) hx hb hts hin11 tyX11 tyX11_ok nmX11 hown hK hP hD hS 0 rfl rfl 43 (by decide) hw_1 (fun _ h9 => h9) rfl (by decide +kernel) rfl rfl (Nat.le_of_ble_eq_true rfl) dX11_forget_7 (fun H locs hP hD hS => ?_)
  have hP : va_P (dC, dI) vwCl [(m0, .inr (11, oX11 ra (upd (upd x0 0 0) 21 0)))] H := hP
  have hD : va_D A [(m0, .inr (11, oX11 ra (upd (upd x0 0 0) 21 0)))] := hD
  have hP9 := hP.sub (ws' := [(m0, .inr (11, oX11 ra (upd (upd x0 0 0) 21 0)))]) [0] rfl
  have hD9 := hD.sub (ws' := [(m0, .inr (11, oX11 ra (upd (upd x0 0 0) 21 0)))]) [0] (by decide) rfl
  exact W.vret hx hb hr (fun t ht hW => ⟨⟨(), rfl, trivial, upd (upd x0 0 0) 21 0, (fI_u (fI_u hX (k := 0) ((iv_w (iv_k (by decide) (by decide) : iv 0 0 0) (by decide) (by decide)))) (k := 21) ((iv_w (iv_k (by decide) (by decide) : iv 0 0 0) (by decide) (by decide)))), by rw [ht]; exact hP9, hD9⟩, hS.F ht⟩) hS.2.2 dX11_forget_10
def rm_s11_fits : Room := { frames := 6, cells := 0, slots := 0, locals := 149 }
set_option maxHeartbeats 4000000 in
set_option maxRecDepth 100000 in
theorem s11_fits (l : Launch) (dC : Nat → ClassId) (dI : Nat → Nat → Nat) (kB kI kJ kZ kC kS : ClassId) (sz : Nat) (m0 : Nat) (ra : Nat → Nat) (x0 : Nat → Int32) (q_told : Nat → Int32) (q_kind : Nat → Int32) (q_salt : Nat → Int32) (q_mute : Nat → Int32) (q_late : Nat → Int32) (q_from : Nat → Int32) (q_to : Nat → Int32) (q_goal : Nat → Int32) (q_now : Nat → Int32) (q_reach : Nat → Int32) (q_notedPort : Nat → Int32) (q_notedGoal : Nat → Int32) (q_notedHop : Nat → Int32) (q_notedAddress : Nat → Int32) (q_fitting : Nat → Int32) (p0 : Int32) (p1 : Int32) (hX : fI lX11 hX11 x0) (hq_told : fI lTold hTold q_told) (hq_salt : fI (fun _ => 0) (fun _ => 15) q_salt) (hq_from : fI (fun _ => 0) (fun _ => 11) q_from) (hq_to : fI (fun _ => 0) (fun _ => 11) q_to) (hq_goal : fI (fun _ => 0) (fun _ => 11) q_goal) (hq_now : fI lNow hNow q_now) (hq_notedPort : fI (fun _ => 0) (fun _ => 31) q_notedPort) (hq_notedGoal : fI (fun _ => 0) (fun _ => 2) q_notedGoal) (hLT : ∀ j : Nat, (j : Int) < (q_told 1).toInt → (q_from j).toInt < (q_to j).toInt) : Met l yX11_fits wsX11_fits rm_s11_fits (va_Pc [.ref m0, .int p0, .int p1] (fun U => U.heap.size = sz ∧ va_P (dC, dI) vwCl [(m0, .inr (11, oX11 ra x0)), (ra 2, .inl (kI, 8, .inl q_told)), (ra 3, .inl (kI, 24, .inl q_kind)), (ra 4, .inl (kI, 24, .inl q_salt)), (ra 6, .inl (kI, 24, .inl q_mute)), (ra 7, .inl (kI, 24, .inl q_late)), (ra 8, .inl (kI, 40, .inl q_from)), (ra 9, .inl (kI, 40, .inl q_to)), (ra 10, .inl (kI, 6, .inl q_goal)), (ra 11, .inl (kI, 1019, .inl q_now)), (ra 14, .inl (kI, 12, .inl q_reach)), (ra 22, .inl (kI, 8, .inl q_notedPort)), (ra 23, .inl (kI, 8, .inl q_notedGoal)), (ra 24, .inl (kI, 8, .inl q_notedHop)), (ra 25, .inl (kI, 8, .inl q_notedAddress)), (ra 26, .inl (kZ, 64, .inl q_fitting))] U.heap ∧ kE dC dI kB kI kJ kZ kC kS U ∧ va_D (fun _ => True) [(m0, .inr (11, oX11 ra x0)), (ra 2, .inl (kI, 8, .inl q_told)), (ra 3, .inl (kI, 24, .inl q_kind)), (ra 4, .inl (kI, 24, .inl q_salt)), (ra 6, .inl (kI, 24, .inl q_mute)), (ra 7, .inl (kI, 24, .inl q_late)), (ra 8, .inl (kI, 40, .inl q_from)), (ra 9, .inl (kI, 40, .inl q_to)), (ra 10, .inl (kI, 6, .inl q_goal)), (ra 11, .inl (kI, 1019, .inl q_now)), (ra 14, .inl (kI, 12, .inl q_reach)), (ra 22, .inl (kI, 8, .inl q_notedPort)), (ra 23, .inl (kI, 8, .inl q_notedGoal)), (ra 24, .inl (kI, 8, .inl q_notedHop)), (ra 25, .inl (kI, 8, .inl q_notedAddress)), (ra 26, .inl (kZ, 64, .inl q_fitting))])) (va_Qi (fun (r : Int32) (_ : Unit) => True) (fun _ t => ∃ (x0' : Nat → Int32) (q_now' : Nat → Int32) (q_fitting' : Nat → Int32), fI lX11 hX11 x0' ∧ fI lNow hNow q_now' ∧ va_P (dC, dI) vwCl [(m0, .inr (11, oX11 ra x0')), (ra 2, .inl (kI, 8, .inl q_told)), (ra 3, .inl (kI, 24, .inl q_kind)), (ra 4, .inl (kI, 24, .inl q_salt)), (ra 6, .inl (kI, 24, .inl q_mute)), (ra 7, .inl (kI, 24, .inl q_late)), (ra 8, .inl (kI, 40, .inl q_from)), (ra 9, .inl (kI, 40, .inl q_to)), (ra 10, .inl (kI, 6, .inl q_goal)), (ra 11, .inl (kI, 1019, .inl q_now')), (ra 14, .inl (kI, 12, .inl q_reach)), (ra 22, .inl (kI, 8, .inl q_notedPort)), (ra 23, .inl (kI, 8, .inl q_notedGoal)), (ra 24, .inl (kI, 8, .inl q_notedHop)), (ra 25, .inl (kI, 8, .inl q_notedAddress)), (ra 26, .inl (kZ, 64, .inl q_fitting'))] t.heap ∧ va_D (va_A [(m0, .inr (11, oX11 ra x0)), (ra 2, .inl (kI, 8, .inl q_told)), (ra 3, .inl (kI, 24, .inl q_kind)), (ra 4, .inl (kI, 24, .inl q_salt)), (ra 6, .inl (kI, 24, .inl q_mute)), (ra 7, .inl (kI, 24, .inl q_late)), (ra 8, .inl (kI, 40, .inl q_from)), (ra 9, .inl (kI, 40, .inl q_to)), (ra 10, .inl (kI, 6, .inl q_goal)), (ra 11, .inl (kI, 1019, .inl q_now)), (ra 14, .inl (kI, 12, .inl q_reach)), (ra 22, .inl (kI, 8, .inl q_notedPort)), (ra 23, .inl (kI, 8, .inl q_notedGoal)), (ra 24, .inl (kI, 8, .inl q_notedHop)), (ra 25, .inl (kI, 8, .inl q_notedAddress)), (ra 26, .inl (kZ, 64, .inl q_fitting))] sz) [(m0, .inr (11, oX11 ra x0')), (ra 2, .inl (kI, 8, .inl q_told)), (ra 3, .inl (kI, 24, .inl q_kind)), (ra 4, .inl (kI, 24, .inl q_salt)), (ra 6, .inl (kI, 24, .inl q_mute)), (ra 7, .inl (kI, 24, .inl q_late)), (ra 8, .inl (kI, 40, .inl q_from)), (ra 9, .inl (kI, 40, .inl q_to)), (ra 10, .inl (kI, 6, .inl q_goal)), (ra 11, .inl (kI, 1019, .inl q_now')), (ra 14, .inl (kI, 12, .inl q_reach)), (ra 22, .inl (kI, 8, .inl q_notedPort)), (ra 23, .inl (kI, 8, .inl q_notedGoal)), (ra 24, .inl (kI, 8, .inl q_notedHop)), (ra 25, .inl (kI, 8, .inl q_notedAddress)), (ra 26, .inl (kZ, 64, .inl q_fitting'))]) (va_A [(m0, .inr (11, oX11 ra x0)), (ra 2, .inl (kI, 8, .inl q_told)), (ra 3, .inl (kI, 24, .inl q_kind)), (ra 4, .inl (kI, 24, .inl q_salt)), (ra 6, .inl (kI, 24, .inl q_mute)), (ra 7, .inl (kI, 24, .inl q_late)), (ra 8, .inl (kI, 40, .inl q_from)), (ra 9, .inl (kI, 40, .inl q_to)), (ra 10, .inl (kI, 6, .inl q_goal)), (ra 11, .inl (kI, 1019, .inl q_now)), (ra 14, .inl (kI, 12, .inl q_reach)), (ra 22, .inl (kI, 8, .inl q_notedPort)), (ra 23, .inl (kI, 8, .inl q_notedGoal)), (ra 24, .inl (kI, 8, .inl q_notedHop)), (ra 25, .inl (kI, 8, .inl q_notedAddress)), (ra 26, .inl (kZ, 64, .inl q_fitting))] sz)) 0 0 (va_A [(m0, .inr (11, oX11 ra x0)), (ra 2, .inl (kI, 8, .inl q_told)), (ra 3, .inl (kI, 24, .inl q_kind)), (ra 4, .inl (kI, 24, .inl q_salt)), (ra 6, .inl (kI, 24, .inl q_mute)), (ra 7, .inl (kI, 24, .inl q_late)), (ra 8, .inl (kI, 40, .inl q_from)), (ra 9, .inl (kI, 40, .inl q_to)), (ra 10, .inl (kI, 6, .inl q_goal)), (ra 11, .inl (kI, 1019, .inl q_now)), (ra 14, .inl (kI, 12, .inl q_reach)), (ra 22, .inl (kI, 8, .inl q_notedPort)), (ra 23, .inl (kI, 8, .inl q_notedGoal)), (ra 24, .inl (kI, 8, .inl q_notedHop)), (ra 25, .inl (kI, 8, .inl q_notedAddress)), (ra 26, .inl (kZ, 64, .inl q_fitting))] sz) := by
  refine Met.ofW (cc := cX11_fits) (maxL := 6) (ret := (some .int)) (by decide) rfl ?_
  intro p e s m args0 below meth c s₁ B hml hv
  obtain ⟨hargs, hsz, hP, hE, hD0⟩ := hv
  have hx := B.exec
  have hb := B.bytes
  have hr := B.returns
  have hts := atoms_spec (ws := wsX11_fits) B.pre
  have hown : s.vm.findClass RX11 = some m.cls := findClass_of_methodNamed B.named
  have hlocks := B.notSynchronized
  have hK := hE.1
  have hin11 : ∀ w ∈ wsX110, w ∈ wsX11_fits := fun _ h9 => List.mem_cons_of_mem _ (List.mem_append_right _ h9)
  have hw_0 := hts (.fieldLink RX11 115 "PathProberModel" "fitting" "[Z") (List.mem_of_getElem? (i := 2) (by decide +kernel))
  have hw_1 := hts (.fieldLink RX11 142 "PathProberModel" "code" "I") (List.mem_of_getElem? (i := 1) (by decide +kernel))
  subst hsz
  have hD := hD0.self (sz := s.heap.size)
  generalize hAe : va_A [(m0, .inr (11, oX11 ra x0)), (ra 2, .inl (kI, 8, .inl q_told)), (ra 3, .inl (kI, 24, .inl q_kind)), (ra 4, .inl (kI, 24, .inl q_salt)), (ra 6, .inl (kI, 24, .inl q_mute)), (ra 7, .inl (kI, 24, .inl q_late)), (ra 8, .inl (kI, 40, .inl q_from)), (ra 9, .inl (kI, 40, .inl q_to)), (ra 10, .inl (kI, 6, .inl q_goal)), (ra 11, .inl (kI, 1019, .inl q_now)), (ra 14, .inl (kI, 12, .inl q_reach)), (ra 22, .inl (kI, 8, .inl q_notedPort)), (ra 23, .inl (kI, 8, .inl q_notedGoal)), (ra 24, .inl (kI, 8, .inl q_notedHop)), (ra 25, .inl (kI, 8, .inl q_notedAddress)), (ra 26, .inl (kZ, 64, .inl q_fitting))] s.heap.size = A at hD ⊢
  have hA : ∀ q : Nat, s.heap.size ≤ q → A q := fun q h => by rw [← hAe]; exact Or.inr h
  have hS : va_S A s.heap s.heap [] := va_S.rf
  have hP : va_P (dC, dI) vwCl [(m0, .inr (11, oX11 ra x0)), (ra 2, .inl (kI, 8, .inl q_told)), (ra 3, .inl (kI, 24, .inl q_kind)), (ra 4, .inl (kI, 24, .inl q_salt)), (ra 6, .inl (kI, 24, .inl q_mute)), (ra 7, .inl (kI, 24, .inl q_late)), (ra 8, .inl (kI, 40, .inl q_from)), (ra 9, .inl (kI, 40, .inl q_to)), (ra 10, .inl (kI, 6, .inl q_goal)), (ra 11, .inl (kI, 1019, .inl q_now)), (ra 14, .inl (kI, 12, .inl q_reach)), (ra 22, .inl (kI, 8, .inl q_notedPort)), (ra 23, .inl (kI, 8, .inl q_notedGoal)), (ra 24, .inl (kI, 8, .inl q_notedHop)), (ra 25, .inl (kI, 8, .inl q_notedAddress)), (ra 26, .inl (kZ, 64, .inl q_fitting))] s.heap := hP
  have hl := lv_entry ([.ref m0, .int p0, .int p1]) (n := 6) (Nat.le_of_ble_eq_true rfl)
  have hla : entryFrame m args0 6 = entryFrame m ([.ref m0, .int p0, .int p1] : List Value).toArray 6 := by rw [hargs]
  rw [hla, lg_entry_eq]
  generalize (lg_sl ([.ref m0, .int p0, .int p1]) ++ List.replicate (6 - (lg_sl ([.ref m0, .int p0, .int p1])).length) Slot.unset).toArray = ls at hl ⊢
  have hl : lv_has ls 6 [(0, .ref m0), (1, .int p0), (2, .int p1)] := hl
  have hJ22 : ∀ (y22_0 : Nat → Int32) (H : Heap) (locs : List Loc) (ls : Array Slot), fI lX11 hX11 y22_0 → iv 0 0 (y22_0 0) → va_P (dC, dI) vwCl [(m0, .inr (11, oX11 ra y22_0)), (ra 2, .inl (kI, 8, .inl q_told)), (ra 3, .inl (kI, 24, .inl q_kind)), (ra 4, .inl (kI, 24, .inl q_salt)), (ra 6, .inl (kI, 24, .inl q_mute)), (ra 7, .inl (kI, 24, .inl q_late)), (ra 8, .inl (kI, 40, .inl q_from)), (ra 9, .inl (kI, 40, .inl q_to)), (ra 10, .inl (kI, 6, .inl q_goal)), (ra 11, .inl (kI, 1019, .inl q_now)), (ra 14, .inl (kI, 12, .inl q_reach)), (ra 22, .inl (kI, 8, .inl q_notedPort)), (ra 23, .inl (kI, 8, .inl q_notedGoal)), (ra 24, .inl (kI, 8, .inl q_notedHop)), (ra 25, .inl (kI, 8, .inl q_notedAddress)), (ra 26, .inl (kZ, 64, .inl q_fitting))] H → va_D A [(m0, .inr (11, oX11 ra y22_0)), (ra 2, .inl (kI, 8, .inl q_told)), (ra 3, .inl (kI, 24, .inl q_kind)), (ra 4, .inl (kI, 24, .inl q_salt)), (ra 6, .inl (kI, 24, .inl q_mute)), (ra 7, .inl (kI, 24, .inl q_late)), (ra 8, .inl (kI, 40, .inl q_from)), (ra 9, .inl (kI, 40, .inl q_to)), (ra 10, .inl (kI, 6, .inl q_goal)), (ra 11, .inl (kI, 1019, .inl q_now)), (ra 14, .inl (kI, 12, .inl q_reach)), (ra 22, .inl (kI, 8, .inl q_notedPort)), (ra 23, .inl (kI, 8, .inl q_notedGoal)), (ra 24, .inl (kI, 8, .inl q_notedHop)), (ra 25, .inl (kI, 8, .inl q_notedAddress)), (ra 26, .inl (kZ, 64, .inl q_fitting))] → va_S A s.heap H locs → lv_has ls 6 [(0, .ref m0), (1, .int p0), (2, .int p1)] → W p l e (headSpec wsX11_fits rm_s11_fits).room s m args0 below meth c H locs (0) (0) (MQ below (va_Qi (fun (r : Int32) (_ : Unit) => True) (fun _ t => ∃ (x0' : Nat → Int32) (q_now' : Nat → Int32) (q_fitting' : Nat → Int32), fI lX11 hX11 x0' ∧ fI lNow hNow q_now' ∧ va_P (dC, dI) vwCl [(m0, .inr (11, oX11 ra x0')), (ra 2, .inl (kI, 8, .inl q_told)), (ra 3, .inl (kI, 24, .inl q_kind)), (ra 4, .inl (kI, 24, .inl q_salt)), (ra 6, .inl (kI, 24, .inl q_mute)), (ra 7, .inl (kI, 24, .inl q_late)), (ra 8, .inl (kI, 40, .inl q_from)), (ra 9, .inl (kI, 40, .inl q_to)), (ra 10, .inl (kI, 6, .inl q_goal)), (ra 11, .inl (kI, 1019, .inl q_now')), (ra 14, .inl (kI, 12, .inl q_reach)), (ra 22, .inl (kI, 8, .inl q_notedPort)), (ra 23, .inl (kI, 8, .inl q_notedGoal)), (ra 24, .inl (kI, 8, .inl q_notedHop)), (ra 25, .inl (kI, 8, .inl q_notedAddress)), (ra 26, .inl (kZ, 64, .inl q_fitting'))] t.heap ∧ va_D A [(m0, .inr (11, oX11 ra x0')), (ra 2, .inl (kI, 8, .inl q_told)), (ra 3, .inl (kI, 24, .inl q_kind)), (ra 4, .inl (kI, 24, .inl q_salt)), (ra 6, .inl (kI, 24, .inl q_mute)), (ra 7, .inl (kI, 24, .inl q_late)), (ra 8, .inl (kI, 40, .inl q_from)), (ra 9, .inl (kI, 40, .inl q_to)), (ra 10, .inl (kI, 6, .inl q_goal)), (ra 11, .inl (kI, 1019, .inl q_now')), (ra 14, .inl (kI, 12, .inl q_reach)), (ra 22, .inl (kI, 8, .inl q_notedPort)), (ra 23, .inl (kI, 8, .inl q_notedGoal)), (ra 24, .inl (kI, 8, .inl q_notedHop)), (ra 25, .inl (kI, 8, .inl q_notedAddress)), (ra 26, .inl (kZ, 64, .inl q_fitting'))]) A) args0 s 0 0 A) (F0 m 22 ls []) := by
    intro y22_0 H locs ls hI22_0 h22_2 hP hD hS hl
    refine lv_aload_n hx hb dX11_fits_22 rfl (lv_at hl 0 rfl) ?_
    refine lv_iconst (v := 1) hx hb dX11_fits_23 (by decide) ?_
    have hPc := hP.sub (ws' := [(m0, .inr (11, oX11 ra y22_0))]) [0] rfl
    have hDc := hD.sub (ws' := [(m0, .inr (11, oX11 ra y22_0))]) [0] (by decide +kernel) rfl
    have hFc := va_free (wc := [(m0, .inr (11, oX11 ra y22_0))]) hD hS hA [0] rfl
    refine va_calli (va_runV (As := [.int 1]) (rest := []) ⟨hx, hb, hml, hown, hts⟩ (s11_fail l dC dI kB kI kJ kZ kC kS H.size m0 ra y22_0 1 (hI22_0)) (cwV 1 hts gX11_fits_X11_fail rfl rfl rfl (by decide +kernel) ⟨Nat.le_of_ble_eq_true rfl, Nat.le_of_ble_eq_true rfl⟩) ⟨fun a U g mk q => by obtain ⟨q0, q1, qP, qE, qD⟩ := q; exact ⟨q0, q1, qP, kE_call qE, qD⟩, va_recv hK hP (ci := 11) (q0 := 0) rfl rfl, fun U hU hW => ⟨rfl, by rw [hU], by rw [hU]; exact hPc, kE_warm hW hE, hDc.weaken (fun _ _ _ _ => trivial)⟩⟩ rfl rfl hl.1 rfl (lv_room (Nat.le_of_ble_eq_true rfl)) dX11_fits_24 ⟨Nat.le_of_ble_eq_true rfl, Nat.le_of_ble_eq_true rfl⟩) hS (fun q _ h => hFc q h) hFc (fun r1 u t H1 locs ht hvm w2 hB hz1 hk1 hS => ?_)
    obtain ⟨y3, hq4, hq5, hP1, hD1⟩ := hB
    rw [ht] at hP1
    try dsimp only at w2
    obtain ⟨hP, hD⟩ := va_join (wr := [(ra 2, .inl (kI, 8, .inl q_told)), (ra 3, .inl (kI, 24, .inl q_kind)), (ra 4, .inl (kI, 24, .inl q_salt)), (ra 6, .inl (kI, 24, .inl q_mute)), (ra 7, .inl (kI, 24, .inl q_late)), (ra 8, .inl (kI, 40, .inl q_from)), (ra 9, .inl (kI, 40, .inl q_to)), (ra 10, .inl (kI, 6, .inl q_goal)), (ra 11, .inl (kI, 1019, .inl q_now)), (ra 14, .inl (kI, 12, .inl q_reach)), (ra 22, .inl (kI, 8, .inl q_notedPort)), (ra 23, .inl (kI, 8, .inl q_notedGoal)), (ra 24, .inl (kI, 8, .inl q_notedHop)), (ra 25, .inl (kI, 8, .inl q_notedAddress)), (ra 26, .inl (kZ, 64, .inl q_fitting))]) (w1 := [(m0, .inr (11, oX11 ra y3))]) hP hD [0] [1, 2, 3, 4, 5, 6, 7, 8, 9, 10, 11, 12, 13, 14, 15] rfl rfl (by decide +kernel) (by decide +kernel) hk1 hFc hP1 hD1
    generalize H1 = H at hP hS ⊢
    have hP : va_P (dC, dI) vwCl [(ra 2, .inl (kI, 8, .inl q_told)), (ra 3, .inl (kI, 24, .inl q_kind)), (ra 4, .inl (kI, 24, .inl q_salt)), (ra 6, .inl (kI, 24, .inl q_mute)), (ra 7, .inl (kI, 24, .inl q_late)), (ra 8, .inl (kI, 40, .inl q_from)), (ra 9, .inl (kI, 40, .inl q_to)), (ra 10, .inl (kI, 6, .inl q_goal)), (ra 11, .inl (kI, 1019, .inl q_now)), (ra 14, .inl (kI, 12, .inl q_reach)), (ra 22, .inl (kI, 8, .inl q_notedPort)), (ra 23, .inl (kI, 8, .inl q_notedGoal)), (ra 24, .inl (kI, 8, .inl q_notedHop)), (ra 25, .inl (kI, 8, .inl q_notedAddress)), (ra 26, .inl (kZ, 64, .inl q_fitting)), (m0, .inr (11, oX11 ra y3))] H := hP
    have hD : va_D A [(ra 2, .inl (kI, 8, .inl q_told)), (ra 3, .inl (kI, 24, .inl q_kind)), (ra 4, .inl (kI, 24, .inl q_salt)), (ra 6, .inl (kI, 24, .inl q_mute)), (ra 7, .inl (kI, 24, .inl q_late)), (ra 8, .inl (kI, 40, .inl q_from)), (ra 9, .inl (kI, 40, .inl q_to)), (ra 10, .inl (kI, 6, .inl q_goal)), (ra 11, .inl (kI, 1019, .inl q_now)), (ra 14, .inl (kI, 12, .inl q_reach)), (ra 22, .inl (kI, 8, .inl q_notedPort)), (ra 23, .inl (kI, 8, .inl q_notedGoal)), (ra 24, .inl (kI, 8, .inl q_notedHop)), (ra 25, .inl (kI, 8, .inl q_notedAddress)), (ra 26, .inl (kZ, 64, .inl q_fitting)), (m0, .inr (11, oX11 ra y3))] := hD
    refine W.widen (k := 0) (n := 0) (Nat.le_of_ble_eq_true rfl) (Nat.le_of_ble_eq_true rfl) ?_
    obtain rfl : r1 = 0 := iv_one w2 (by decide)
    have hP9 := hP.sub (ws' := [(m0, .inr (11, oX11 ra y3)), (ra 2, .inl (kI, 8, .inl q_told)), (ra 3, .inl (kI, 24, .inl q_kind)), (ra 4, .inl (kI, 24, .inl q_salt)), (ra 6, .inl (kI, 24, .inl q_mute)), (ra 7, .inl (kI, 24, .inl q_late)), (ra 8, .inl (kI, 40, .inl q_from)), (ra 9, .inl (kI, 40, .inl q_to)), (ra 10, .inl (kI, 6, .inl q_goal)), (ra 11, .inl (kI, 1019, .inl q_now)), (ra 14, .inl (kI, 12, .inl q_reach)), (ra 22, .inl (kI, 8, .inl q_notedPort)), (ra 23, .inl (kI, 8, .inl q_notedGoal)), (ra 24, .inl (kI, 8, .inl q_notedHop)), (ra 25, .inl (kI, 8, .inl q_notedAddress)), (ra 26, .inl (kZ, 64, .inl q_fitting))]) [15, 0, 1, 2, 3, 4, 5, 6, 7, 8, 9, 10, 11, 12, 13, 14] rfl
    have hD9 := hD.sub (ws' := [(m0, .inr (11, oX11 ra y3)), (ra 2, .inl (kI, 8, .inl q_told)), (ra 3, .inl (kI, 24, .inl q_kind)), (ra 4, .inl (kI, 24, .inl q_salt)), (ra 6, .inl (kI, 24, .inl q_mute)), (ra 7, .inl (kI, 24, .inl q_late)), (ra 8, .inl (kI, 40, .inl q_from)), (ra 9, .inl (kI, 40, .inl q_to)), (ra 10, .inl (kI, 6, .inl q_goal)), (ra 11, .inl (kI, 1019, .inl q_now)), (ra 14, .inl (kI, 12, .inl q_reach)), (ra 22, .inl (kI, 8, .inl q_notedPort)), (ra 23, .inl (kI, 8, .inl q_notedGoal)), (ra 24, .inl (kI, 8, .inl q_notedHop)), (ra 25, .inl (kI, 8, .inl q_notedAddress)), (ra 26, .inl (kZ, 64, .inl q_fitting))]) [15, 0, 1, 2, 3, 4, 5, 6, 7, 8, 9, 10, 11, 12, 13, 14] (by decide +kernel) rfl
    exact W.iret (v := 0) hx hb hr (fun t ht hW => ⟨⟨0, (), rfl, trivial, y3, q_now, q_fitting, hq4, hq_now, by rw [ht]; exact hP9, hD9⟩, hS.F ht⟩) hS.2.2 dX11_fits_27
  have hJ41 : ∀ (n : Nat) (y41_0 : Nat → Int32) (g41_9 : Nat → Int32) (g41_15 : Nat → Int32) (v41_loc3 : Int32) (v41_loc4 : Int32) (v41_loc5 : Int32) (H : Heap) (locs : List Loc) (ls : Array Slot), (64 - v41_loc5.toInt).toNat < n → fI lX11 hX11 y41_0 → fI lNow hNow g41_9 → iv 0 11 p0 → iv 0 1 p1 → iv (-1) 63 v41_loc4 → iv 0 64 v41_loc5 → va_P (dC, dI) vwCl [(m0, .inr (11, oX11 ra y41_0)), (ra 2, .inl (kI, 8, .inl q_told)), (ra 3, .inl (kI, 24, .inl q_kind)), (ra 4, .inl (kI, 24, .inl q_salt)), (ra 6, .inl (kI, 24, .inl q_mute)), (ra 7, .inl (kI, 24, .inl q_late)), (ra 8, .inl (kI, 40, .inl q_from)), (ra 9, .inl (kI, 40, .inl q_to)), (ra 10, .inl (kI, 6, .inl q_goal)), (ra 11, .inl (kI, 1019, .inl g41_9)), (ra 14, .inl (kI, 12, .inl q_reach)), (ra 22, .inl (kI, 8, .inl q_notedPort)), (ra 23, .inl (kI, 8, .inl q_notedGoal)), (ra 24, .inl (kI, 8, .inl q_notedHop)), (ra 25, .inl (kI, 8, .inl q_notedAddress)), (ra 26, .inl (kZ, 64, .inl g41_15))] H → va_D A [(m0, .inr (11, oX11 ra y41_0)), (ra 2, .inl (kI, 8, .inl q_told)), (ra 3, .inl (kI, 24, .inl q_kind)), (ra 4, .inl (kI, 24, .inl q_salt)), (ra 6, .inl (kI, 24, .inl q_mute)), (ra 7, .inl (kI, 24, .inl q_late)), (ra 8, .inl (kI, 40, .inl q_from)), (ra 9, .inl (kI, 40, .inl q_to)), (ra 10, .inl (kI, 6, .inl q_goal)), (ra 11, .inl (kI, 1019, .inl g41_9)), (ra 14, .inl (kI, 12, .inl q_reach)), (ra 22, .inl (kI, 8, .inl q_notedPort)), (ra 23, .inl (kI, 8, .inl q_notedGoal)), (ra 24, .inl (kI, 8, .inl q_notedHop)), (ra 25, .inl (kI, 8, .inl q_notedAddress)), (ra 26, .inl (kZ, 64, .inl g41_15))] → va_S A s.heap H locs → lv_has ls 6 [(0, .ref m0), (1, .int p0), (2, .int p1), (3, .int v41_loc3), (4, .int v41_loc4), (5, .int v41_loc5)] → W p l e (headSpec wsX11_fits rm_s11_fits).room s m args0 below meth c H locs (0) (0) (MQ below (va_Qi (fun (r : Int32) (_ : Unit) => True) (fun _ t => ∃ (x0' : Nat → Int32) (q_now' : Nat → Int32) (q_fitting' : Nat → Int32), fI lX11 hX11 x0' ∧ fI lNow hNow q_now' ∧ va_P (dC, dI) vwCl [(m0, .inr (11, oX11 ra x0')), (ra 2, .inl (kI, 8, .inl q_told)), (ra 3, .inl (kI, 24, .inl q_kind)), (ra 4, .inl (kI, 24, .inl q_salt)), (ra 6, .inl (kI, 24, .inl q_mute)), (ra 7, .inl (kI, 24, .inl q_late)), (ra 8, .inl (kI, 40, .inl q_from)), (ra 9, .inl (kI, 40, .inl q_to)), (ra 10, .inl (kI, 6, .inl q_goal)), (ra 11, .inl (kI, 1019, .inl q_now')), (ra 14, .inl (kI, 12, .inl q_reach)), (ra 22, .inl (kI, 8, .inl q_notedPort)), (ra 23, .inl (kI, 8, .inl q_notedGoal)), (ra 24, .inl (kI, 8, .inl q_notedHop)), (ra 25, .inl (kI, 8, .inl q_notedAddress)), (ra 26, .inl (kZ, 64, .inl q_fitting'))] t.heap ∧ va_D A [(m0, .inr (11, oX11 ra x0')), (ra 2, .inl (kI, 8, .inl q_told)), (ra 3, .inl (kI, 24, .inl q_kind)), (ra 4, .inl (kI, 24, .inl q_salt)), (ra 6, .inl (kI, 24, .inl q_mute)), (ra 7, .inl (kI, 24, .inl q_late)), (ra 8, .inl (kI, 40, .inl q_from)), (ra 9, .inl (kI, 40, .inl q_to)), (ra 10, .inl (kI, 6, .inl q_goal)), (ra 11, .inl (kI, 1019, .inl q_now')), (ra 14, .inl (kI, 12, .inl q_reach)), (ra 22, .inl (kI, 8, .inl q_notedPort)), (ra 23, .inl (kI, 8, .inl q_notedGoal)), (ra 24, .inl (kI, 8, .inl q_notedHop)), (ra 25, .inl (kI, 8, .inl q_notedAddress)), (ra 26, .inl (kZ, 64, .inl q_fitting'))]) A) args0 s 0 0 A) (F0 m 41 ls []) := by
    intro n
    induction n with
    | zero => intro y41_0 g41_9 g41_15 v41_loc3 v41_loc4 v41_loc5 H locs ls hm41; exact absurd hm41 (Nat.not_lt_zero _)
    | succ n ih41 =>
      intro y41_0 g41_9 g41_15 v41_loc3 v41_loc4 v41_loc5 H locs ls hm41 hI41_0 hI41_9 h41_3 h41_4 h41_5 h41_6 hP hD hS hl
      have hJ89 : ∀ (v89_loc4 : Int32) (v89_stk0 : Int32) (H : Heap) (locs : List Loc) (ls : Array Slot), iv (-1) 63 v89_loc4 → iv 0 63 v41_loc5 → iv 0 1 v89_stk0 → va_P (dC, dI) vwCl [(m0, .inr (11, oX11 ra y41_0)), (ra 2, .inl (kI, 8, .inl q_told)), (ra 3, .inl (kI, 24, .inl q_kind)), (ra 4, .inl (kI, 24, .inl q_salt)), (ra 6, .inl (kI, 24, .inl q_mute)), (ra 7, .inl (kI, 24, .inl q_late)), (ra 8, .inl (kI, 40, .inl q_from)), (ra 9, .inl (kI, 40, .inl q_to)), (ra 10, .inl (kI, 6, .inl q_goal)), (ra 11, .inl (kI, 1019, .inl g41_9)), (ra 14, .inl (kI, 12, .inl q_reach)), (ra 22, .inl (kI, 8, .inl q_notedPort)), (ra 23, .inl (kI, 8, .inl q_notedGoal)), (ra 24, .inl (kI, 8, .inl q_notedHop)), (ra 25, .inl (kI, 8, .inl q_notedAddress)), (ra 26, .inl (kZ, 64, .inl g41_15))] H → va_D A [(m0, .inr (11, oX11 ra y41_0)), (ra 2, .inl (kI, 8, .inl q_told)), (ra 3, .inl (kI, 24, .inl q_kind)), (ra 4, .inl (kI, 24, .inl q_salt)), (ra 6, .inl (kI, 24, .inl q_mute)), (ra 7, .inl (kI, 24, .inl q_late)), (ra 8, .inl (kI, 40, .inl q_from)), (ra 9, .inl (kI, 40, .inl q_to)), (ra 10, .inl (kI, 6, .inl q_goal)), (ra 11, .inl (kI, 1019, .inl g41_9)), (ra 14, .inl (kI, 12, .inl q_reach)), (ra 22, .inl (kI, 8, .inl q_notedPort)), (ra 23, .inl (kI, 8, .inl q_notedGoal)), (ra 24, .inl (kI, 8, .inl q_notedHop)), (ra 25, .inl (kI, 8, .inl q_notedAddress)), (ra 26, .inl (kZ, 64, .inl g41_15))] → va_S A s.heap H locs → lv_has ls 6 [(0, .ref m0), (1, .int p0), (2, .int p1), (3, .int v41_loc3), (4, .int v89_loc4), (5, .int v41_loc5)] → W p l e (headSpec wsX11_fits rm_s11_fits).room s m args0 below meth c H locs (0) (0) (MQ below (va_Qi (fun (r : Int32) (_ : Unit) => True) (fun _ t => ∃ (x0' : Nat → Int32) (q_now' : Nat → Int32) (q_fitting' : Nat → Int32), fI lX11 hX11 x0' ∧ fI lNow hNow q_now' ∧ va_P (dC, dI) vwCl [(m0, .inr (11, oX11 ra x0')), (ra 2, .inl (kI, 8, .inl q_told)), (ra 3, .inl (kI, 24, .inl q_kind)), (ra 4, .inl (kI, 24, .inl q_salt)), (ra 6, .inl (kI, 24, .inl q_mute)), (ra 7, .inl (kI, 24, .inl q_late)), (ra 8, .inl (kI, 40, .inl q_from)), (ra 9, .inl (kI, 40, .inl q_to)), (ra 10, .inl (kI, 6, .inl q_goal)), (ra 11, .inl (kI, 1019, .inl q_now')), (ra 14, .inl (kI, 12, .inl q_reach)), (ra 22, .inl (kI, 8, .inl q_notedPort)), (ra 23, .inl (kI, 8, .inl q_notedGoal)), (ra 24, .inl (kI, 8, .inl q_notedHop)), (ra 25, .inl (kI, 8, .inl q_notedAddress)), (ra 26, .inl (kZ, 64, .inl q_fitting'))] t.heap ∧ va_D A [(m0, .inr (11, oX11 ra x0')), (ra 2, .inl (kI, 8, .inl q_told)), (ra 3, .inl (kI, 24, .inl q_kind)), (ra 4, .inl (kI, 24, .inl q_salt)), (ra 6, .inl (kI, 24, .inl q_mute)), (ra 7, .inl (kI, 24, .inl q_late)), (ra 8, .inl (kI, 40, .inl q_from)), (ra 9, .inl (kI, 40, .inl q_to)), (ra 10, .inl (kI, 6, .inl q_goal)), (ra 11, .inl (kI, 1019, .inl q_now')), (ra 14, .inl (kI, 12, .inl q_reach)), (ra 22, .inl (kI, 8, .inl q_notedPort)), (ra 23, .inl (kI, 8, .inl q_notedGoal)), (ra 24, .inl (kI, 8, .inl q_notedHop)), (ra 25, .inl (kI, 8, .inl q_notedAddress)), (ra 26, .inl (kZ, 64, .inl q_fitting'))]) A) args0 s 0 0 A) (F0 m 89 ls [.int v89_stk0, .int v41_loc3]) := by
        intro v89_loc4 v89_stk0 H locs ls h89_1 h89_2 h89_3 hP hD hS hl
        refine lv_iadd hx hb dX11_fits_89 ?_
        refine lv_topi (fun z6 _ => ?_)
        refine lv_istore_n (lv' := [(3, .int z6), (0, .ref m0), (1, .int p0), (2, .int p1), (4, .int v89_loc4), (5, .int v41_loc5)]) hx hb dX11_fits_90 rfl hl (by decide) rfl (fun ls hl => ?_)
        refine lv_iinc (v := v41_loc5 + Int32.ofInt 1) (lv' := [(5, .int (v41_loc5 + Int32.ofInt 1)), (3, .int z6), (0, .ref m0), (1, .int p0), (2, .int p1), (4, .int v89_loc4)]) hx hb dX11_fits_91 hl (k := 5) rfl (rfl) (by decide) rfl (fun ls hl => ?_)
        have b7 : iv 1 64 (v41_loc5 + Int32.ofInt 1) := iv_add h89_2 (iv_k (by decide) (by decide) : iv 1 1 (Int32.ofInt 1)) (by decide) (by decide) (by decide) (by decide)
        refine lv_goto (tgt := 41) hx hb dX11_fits_94 (by decide) ?_
        exact ih41 y41_0 g41_9 g41_15 z6 v89_loc4 (v41_loc5 + Int32.ofInt 1) _ _ _ (ms_up (c := 1) (d := 0) h89_2 hm41 (by decide) (iv_inc 1 h89_2 (by decide) (by decide) (by decide) (by decide)) (by decide) rfl) (hI41_0) (hI41_9) (h41_3) (h41_4) (h89_1) ((iv_w b7 (by decide) (by decide))) (hP.sub [0, 1, 2, 3, 4, 5, 6, 7, 8, 9, 10, 11, 12, 13, 14, 15] rfl) (hD.sub [0, 1, 2, 3, 4, 5, 6, 7, 8, 9, 10, 11, 12, 13, 14, 15] (by decide +kernel) rfl) hS (lv_sub hl [2, 3, 4, 1, 5, 0] rfl)
      have hJ71 : ∀ (v71_stk0 : Int32) (H : Heap) (locs : List Loc) (ls : Array Slot), iv 0 63 v41_loc5 → iv (-1) 63 v71_stk0 → va_P (dC, dI) vwCl [(m0, .inr (11, oX11 ra y41_0)), (ra 2, .inl (kI, 8, .inl q_told)), (ra 3, .inl (kI, 24, .inl q_kind)), (ra 4, .inl (kI, 24, .inl q_salt)), (ra 6, .inl (kI, 24, .inl q_mute)), (ra 7, .inl (kI, 24, .inl q_late)), (ra 8, .inl (kI, 40, .inl q_from)), (ra 9, .inl (kI, 40, .inl q_to)), (ra 10, .inl (kI, 6, .inl q_goal)), (ra 11, .inl (kI, 1019, .inl g41_9)), (ra 14, .inl (kI, 12, .inl q_reach)), (ra 22, .inl (kI, 8, .inl q_notedPort)), (ra 23, .inl (kI, 8, .inl q_notedGoal)), (ra 24, .inl (kI, 8, .inl q_notedHop)), (ra 25, .inl (kI, 8, .inl q_notedAddress)), (ra 26, .inl (kZ, 64, .inl g41_15))] H → va_D A [(m0, .inr (11, oX11 ra y41_0)), (ra 2, .inl (kI, 8, .inl q_told)), (ra 3, .inl (kI, 24, .inl q_kind)), (ra 4, .inl (kI, 24, .inl q_salt)), (ra 6, .inl (kI, 24, .inl q_mute)), (ra 7, .inl (kI, 24, .inl q_late)), (ra 8, .inl (kI, 40, .inl q_from)), (ra 9, .inl (kI, 40, .inl q_to)), (ra 10, .inl (kI, 6, .inl q_goal)), (ra 11, .inl (kI, 1019, .inl g41_9)), (ra 14, .inl (kI, 12, .inl q_reach)), (ra 22, .inl (kI, 8, .inl q_notedPort)), (ra 23, .inl (kI, 8, .inl q_notedGoal)), (ra 24, .inl (kI, 8, .inl q_notedHop)), (ra 25, .inl (kI, 8, .inl q_notedAddress)), (ra 26, .inl (kZ, 64, .inl g41_15))] → va_S A s.heap H locs → lv_has ls 6 [(0, .ref m0), (1, .int p0), (2, .int p1), (3, .int v41_loc3), (4, .int v41_loc4), (5, .int v41_loc5)] → W p l e (headSpec wsX11_fits rm_s11_fits).room s m args0 below meth c H locs (0) (0) (MQ below (va_Qi (fun (r : Int32) (_ : Unit) => True) (fun _ t => ∃ (x0' : Nat → Int32) (q_now' : Nat → Int32) (q_fitting' : Nat → Int32), fI lX11 hX11 x0' ∧ fI lNow hNow q_now' ∧ va_P (dC, dI) vwCl [(m0, .inr (11, oX11 ra x0')), (ra 2, .inl (kI, 8, .inl q_told)), (ra 3, .inl (kI, 24, .inl q_kind)), (ra 4, .inl (kI, 24, .inl q_salt)), (ra 6, .inl (kI, 24, .inl q_mute)), (ra 7, .inl (kI, 24, .inl q_late)), (ra 8, .inl (kI, 40, .inl q_from)), (ra 9, .inl (kI, 40, .inl q_to)), (ra 10, .inl (kI, 6, .inl q_goal)), (ra 11, .inl (kI, 1019, .inl q_now')), (ra 14, .inl (kI, 12, .inl q_reach)), (ra 22, .inl (kI, 8, .inl q_notedPort)), (ra 23, .inl (kI, 8, .inl q_notedGoal)), (ra 24, .inl (kI, 8, .inl q_notedHop)), (ra 25, .inl (kI, 8, .inl q_notedAddress)), (ra 26, .inl (kZ, 64, .inl q_fitting'))] t.heap ∧ va_D A [(m0, .inr (11, oX11 ra x0')), (ra 2, .inl (kI, 8, .inl q_told)), (ra 3, .inl (kI, 24, .inl q_kind)), (ra 4, .inl (kI, 24, .inl q_salt)), (ra 6, .inl (kI, 24, .inl q_mute)), (ra 7, .inl (kI, 24, .inl q_late)), (ra 8, .inl (kI, 40, .inl q_from)), (ra 9, .inl (kI, 40, .inl q_to)), (ra 10, .inl (kI, 6, .inl q_goal)), (ra 11, .inl (kI, 1019, .inl q_now')), (ra 14, .inl (kI, 12, .inl q_reach)), (ra 22, .inl (kI, 8, .inl q_notedPort)), (ra 23, .inl (kI, 8, .inl q_notedGoal)), (ra 24, .inl (kI, 8, .inl q_notedHop)), (ra 25, .inl (kI, 8, .inl q_notedAddress)), (ra 26, .inl (kZ, 64, .inl q_fitting'))]) A) args0 s 0 0 A) (F0 m 71 ls [.int v71_stk0]) := by
        intro v71_stk0 H locs ls h71_1 h71_2 hP hD hS hl
        refine lv_istore (lv' := [(4, .int v71_stk0), (0, .ref m0), (1, .int p0), (2, .int p1), (3, .int v41_loc3), (5, .int v41_loc5)]) hx hb dX11_fits_71 hl (by decide) rfl (fun ls hl => ?_)
        refine lv_iload_n hx hb dX11_fits_73 rfl (lv_at hl 4 rfl) ?_
        refine lv_aload_n hx hb dX11_fits_74 rfl (lv_at hl 1 rfl) ?_
        refine va_get (D := (dC, dI)) (ci := 11) (v := .ref (ra 26)) (C := RX11) (T := TX11) (N := 61) hx hb hts hin11 hown hK hP 0 rfl rfl 48 (by decide) hw_0 (fun _ h9 => h9) rfl dX11_fits_75 ?_
        refine lv_iload hx hb dX11_fits_78 (lv_at hl 5 rfl) ?_
        refine va_zald hx hb hK hP 15 3 rfl rfl (iv_in h71_1 (by decide) (by decide)) dX11_fits_80 ?_
        refine lv_topi (fun z8 _ => ?_)
        refine lv_if_eq (tgt := 88) hx hb dX11_fits_81 (by decide) (fun c9 => ?_) (fun c9 => ?_)
        · have b10 : iv 0 0 z8 := iv_eqL c9 (iv_k (by decide) (by decide) : iv 0 0 0)
          refine lv_iconst (v := 0) hx hb dX11_fits_88 (by decide) ?_
          exact hJ89 v71_stk0 0 _ _ _ (h71_2) (h71_1) ((iv_w (iv_k (by decide) (by decide) : iv 0 0 0) (by decide) (by decide))) (hP.sub [0, 1, 2, 3, 4, 5, 6, 7, 8, 9, 10, 11, 12, 13, 14, 15] rfl) (hD.sub [0, 1, 2, 3, 4, 5, 6, 7, 8, 9, 10, 11, 12, 13, 14, 15] (by decide +kernel) rfl) hS (lv_sub hl [1, 2, 3, 4, 0, 5] rfl)
        · refine lv_iconst (v := 1) hx hb dX11_fits_84 (by decide) ?_
          refine lv_goto (tgt := 89) hx hb dX11_fits_85 (by decide) ?_
          exact hJ89 v71_stk0 1 _ _ _ (h71_2) (h71_1) ((iv_w (iv_k (by decide) (by decide) : iv 1 1 1) (by decide) (by decide))) (hP.sub [0, 1, 2, 3, 4, 5, 6, 7, 8, 9, 10, 11, 12, 13, 14, 15] rfl) (hD.sub [0, 1, 2, 3, 4, 5, 6, 7, 8, 9, 10, 11, 12, 13, 14, 15] (by decide +kernel) rfl) hS (lv_sub hl [1, 2, 3, 4, 0, 5] rfl)
      have hJ69 : ∀ (H : Heap) (locs : List Loc) (ls : Array Slot), iv 0 63 v41_loc5 → va_P (dC, dI) vwCl [(m0, .inr (11, oX11 ra y41_0)), (ra 2, .inl (kI, 8, .inl q_told)), (ra 3, .inl (kI, 24, .inl q_kind)), (ra 4, .inl (kI, 24, .inl q_salt)), (ra 6, .inl (kI, 24, .inl q_mute)), (ra 7, .inl (kI, 24, .inl q_late)), (ra 8, .inl (kI, 40, .inl q_from)), (ra 9, .inl (kI, 40, .inl q_to)), (ra 10, .inl (kI, 6, .inl q_goal)), (ra 11, .inl (kI, 1019, .inl g41_9)), (ra 14, .inl (kI, 12, .inl q_reach)), (ra 22, .inl (kI, 8, .inl q_notedPort)), (ra 23, .inl (kI, 8, .inl q_notedGoal)), (ra 24, .inl (kI, 8, .inl q_notedHop)), (ra 25, .inl (kI, 8, .inl q_notedAddress)), (ra 26, .inl (kZ, 64, .inl g41_15))] H → va_D A [(m0, .inr (11, oX11 ra y41_0)), (ra 2, .inl (kI, 8, .inl q_told)), (ra 3, .inl (kI, 24, .inl q_kind)), (ra 4, .inl (kI, 24, .inl q_salt)), (ra 6, .inl (kI, 24, .inl q_mute)), (ra 7, .inl (kI, 24, .inl q_late)), (ra 8, .inl (kI, 40, .inl q_from)), (ra 9, .inl (kI, 40, .inl q_to)), (ra 10, .inl (kI, 6, .inl q_goal)), (ra 11, .inl (kI, 1019, .inl g41_9)), (ra 14, .inl (kI, 12, .inl q_reach)), (ra 22, .inl (kI, 8, .inl q_notedPort)), (ra 23, .inl (kI, 8, .inl q_notedGoal)), (ra 24, .inl (kI, 8, .inl q_notedHop)), (ra 25, .inl (kI, 8, .inl q_notedAddress)), (ra 26, .inl (kZ, 64, .inl g41_15))] → va_S A s.heap H locs → lv_has ls 6 [(0, .ref m0), (1, .int p0), (2, .int p1), (3, .int v41_loc3), (4, .int v41_loc4), (5, .int v41_loc5)] → W p l e (headSpec wsX11_fits rm_s11_fits).room s m args0 below meth c H locs (0) (0) (MQ below (va_Qi (fun (r : Int32) (_ : Unit) => True) (fun _ t => ∃ (x0' : Nat → Int32) (q_now' : Nat → Int32) (q_fitting' : Nat → Int32), fI lX11 hX11 x0' ∧ fI lNow hNow q_now' ∧ va_P (dC, dI) vwCl [(m0, .inr (11, oX11 ra x0')), (ra 2, .inl (kI, 8, .inl q_told)), (ra 3, .inl (kI, 24, .inl q_kind)), (ra 4, .inl (kI, 24, .inl q_salt)), (ra 6, .inl (kI, 24, .inl q_mute)), (ra 7, .inl (kI, 24, .inl q_late)), (ra 8, .inl (kI, 40, .inl q_from)), (ra 9, .inl (kI, 40, .inl q_to)), (ra 10, .inl (kI, 6, .inl q_goal)), (ra 11, .inl (kI, 1019, .inl q_now')), (ra 14, .inl (kI, 12, .inl q_reach)), (ra 22, .inl (kI, 8, .inl q_notedPort)), (ra 23, .inl (kI, 8, .inl q_notedGoal)), (ra 24, .inl (kI, 8, .inl q_notedHop)), (ra 25, .inl (kI, 8, .inl q_notedAddress)), (ra 26, .inl (kZ, 64, .inl q_fitting'))] t.heap ∧ va_D A [(m0, .inr (11, oX11 ra x0')), (ra 2, .inl (kI, 8, .inl q_told)), (ra 3, .inl (kI, 24, .inl q_kind)), (ra 4, .inl (kI, 24, .inl q_salt)), (ra 6, .inl (kI, 24, .inl q_mute)), (ra 7, .inl (kI, 24, .inl q_late)), (ra 8, .inl (kI, 40, .inl q_from)), (ra 9, .inl (kI, 40, .inl q_to)), (ra 10, .inl (kI, 6, .inl q_goal)), (ra 11, .inl (kI, 1019, .inl q_now')), (ra 14, .inl (kI, 12, .inl q_reach)), (ra 22, .inl (kI, 8, .inl q_notedPort)), (ra 23, .inl (kI, 8, .inl q_notedGoal)), (ra 24, .inl (kI, 8, .inl q_notedHop)), (ra 25, .inl (kI, 8, .inl q_notedAddress)), (ra 26, .inl (kZ, 64, .inl q_fitting'))]) A) args0 s 0 0 A) (F0 m 69 ls []) := by
        intro H locs ls h69_1 hP hD hS hl
        refine lv_iload hx hb dX11_fits_69 (lv_at hl 4 rfl) ?_
        exact hJ71 v41_loc4 _ _ _ (h69_1) (h41_5) (hP.sub [0, 1, 2, 3, 4, 5, 6, 7, 8, 9, 10, 11, 12, 13, 14, 15] rfl) (hD.sub [0, 1, 2, 3, 4, 5, 6, 7, 8, 9, 10, 11, 12, 13, 14, 15] (by decide +kernel) rfl) hS (lv_sub hl [0, 1, 2, 3, 4, 5] rfl)
      refine lv_iload hx hb dX11_fits_41 (lv_at hl 5 rfl) ?_
      refine lv_bipush (v := 64) hx hb dX11_fits_43 (by decide) ?_
      refine lv_icmp_ge (tgt := 97) hx hb dX11_fits_45 (by decide) (fun c11 => ?_) (fun c11 => ?_)
      · have b12 : iv 64 64 v41_loc5 := iv_leR c11 (iv_k (by decide) (by decide) : iv 64 64 64) h41_6 (by decide) (by decide)
        refine lv_iload_n hx hb dX11_fits_97 rfl (lv_at hl 2 rfl) ?_
        refine lv_if_ne (tgt := 105) hx hb dX11_fits_98 (by decide) (fun c13 => ?_) (fun c13 => ?_)
        · have b14 : iv 1 1 p1 := iv_neLo c13 h41_4 (iv_k (by decide) (by decide) : iv 0 0 0) (by decide) (by decide)
          refine lv_iload hx hb dX11_fits_105 (lv_at hl 4 rfl) ?_
          have hP9 := hP.sub (ws' := [(m0, .inr (11, oX11 ra y41_0)), (ra 2, .inl (kI, 8, .inl q_told)), (ra 3, .inl (kI, 24, .inl q_kind)), (ra 4, .inl (kI, 24, .inl q_salt)), (ra 6, .inl (kI, 24, .inl q_mute)), (ra 7, .inl (kI, 24, .inl q_late)), (ra 8, .inl (kI, 40, .inl q_from)), (ra 9, .inl (kI, 40, .inl q_to)), (ra 10, .inl (kI, 6, .inl q_goal)), (ra 11, .inl (kI, 1019, .inl g41_9)), (ra 14, .inl (kI, 12, .inl q_reach)), (ra 22, .inl (kI, 8, .inl q_notedPort)), (ra 23, .inl (kI, 8, .inl q_notedGoal)), (ra 24, .inl (kI, 8, .inl q_notedHop)), (ra 25, .inl (kI, 8, .inl q_notedAddress)), (ra 26, .inl (kZ, 64, .inl g41_15))]) [0, 1, 2, 3, 4, 5, 6, 7, 8, 9, 10, 11, 12, 13, 14, 15] rfl
          have hD9 := hD.sub (ws' := [(m0, .inr (11, oX11 ra y41_0)), (ra 2, .inl (kI, 8, .inl q_told)), (ra 3, .inl (kI, 24, .inl q_kind)), (ra 4, .inl (kI, 24, .inl q_salt)), (ra 6, .inl (kI, 24, .inl q_mute)), (ra 7, .inl (kI, 24, .inl q_late)), (ra 8, .inl (kI, 40, .inl q_from)), (ra 9, .inl (kI, 40, .inl q_to)), (ra 10, .inl (kI, 6, .inl q_goal)), (ra 11, .inl (kI, 1019, .inl g41_9)), (ra 14, .inl (kI, 12, .inl q_reach)), (ra 22, .inl (kI, 8, .inl q_notedPort)), (ra 23, .inl (kI, 8, .inl q_notedGoal)), (ra 24, .inl (kI, 8, .inl q_notedHop)), (ra 25, .inl (kI, 8, .inl q_notedAddress)), (ra 26, .inl (kZ, 64, .inl g41_15))]) [0, 1, 2, 3, 4, 5, 6, 7, 8, 9, 10, 11, 12, 13, 14, 15] (by decide +kernel) rfl
          exact W.iret (v := v41_loc4) hx hb hr (fun t ht hW => ⟨⟨v41_loc4, (), rfl, trivial, y41_0, g41_9, g41_15, hI41_0, hI41_9, by rw [ht]; exact hP9, hD9⟩, hS.F ht⟩) hS.2.2 dX11_fits_107
        · have b15 : iv 0 0 p1 := iv_eqL c13 (iv_k (by decide) (by decide) : iv 0 0 0)
          refine lv_iload_n hx hb dX11_fits_101 rfl (lv_at hl 3 rfl) ?_
          refine lv_goto (tgt := 107) hx hb dX11_fits_102 (by decide) ?_
          have hP9 := hP.sub (ws' := [(m0, .inr (11, oX11 ra y41_0)), (ra 2, .inl (kI, 8, .inl q_told)), (ra 3, .inl (kI, 24, .inl q_kind)), (ra 4, .inl (kI, 24, .inl q_salt)), (ra 6, .inl (kI, 24, .inl q_mute)), (ra 7, .inl (kI, 24, .inl q_late)), (ra 8, .inl (kI, 40, .inl q_from)), (ra 9, .inl (kI, 40, .inl q_to)), (ra 10, .inl (kI, 6, .inl q_goal)), (ra 11, .inl (kI, 1019, .inl g41_9)), (ra 14, .inl (kI, 12, .inl q_reach)), (ra 22, .inl (kI, 8, .inl q_notedPort)), (ra 23, .inl (kI, 8, .inl q_notedGoal)), (ra 24, .inl (kI, 8, .inl q_notedHop)), (ra 25, .inl (kI, 8, .inl q_notedAddress)), (ra 26, .inl (kZ, 64, .inl g41_15))]) [0, 1, 2, 3, 4, 5, 6, 7, 8, 9, 10, 11, 12, 13, 14, 15] rfl
          have hD9 := hD.sub (ws' := [(m0, .inr (11, oX11 ra y41_0)), (ra 2, .inl (kI, 8, .inl q_told)), (ra 3, .inl (kI, 24, .inl q_kind)), (ra 4, .inl (kI, 24, .inl q_salt)), (ra 6, .inl (kI, 24, .inl q_mute)), (ra 7, .inl (kI, 24, .inl q_late)), (ra 8, .inl (kI, 40, .inl q_from)), (ra 9, .inl (kI, 40, .inl q_to)), (ra 10, .inl (kI, 6, .inl q_goal)), (ra 11, .inl (kI, 1019, .inl g41_9)), (ra 14, .inl (kI, 12, .inl q_reach)), (ra 22, .inl (kI, 8, .inl q_notedPort)), (ra 23, .inl (kI, 8, .inl q_notedGoal)), (ra 24, .inl (kI, 8, .inl q_notedHop)), (ra 25, .inl (kI, 8, .inl q_notedAddress)), (ra 26, .inl (kZ, 64, .inl g41_15))]) [0, 1, 2, 3, 4, 5, 6, 7, 8, 9, 10, 11, 12, 13, 14, 15] (by decide +kernel) rfl
          exact W.iret (v := v41_loc3) hx hb hr (fun t ht hW => ⟨⟨v41_loc3, (), rfl, trivial, y41_0, g41_9, g41_15, hI41_0, hI41_9, by rw [ht]; exact hP9, hD9⟩, hS.F ht⟩) hS.2.2 dX11_fits_107
      · have b16 : iv 0 63 v41_loc5 := iv_ltL (Int32.not_le.mp c11) h41_6 (iv_k (by decide) (by decide) : iv 64 64 64) (by decide) (by decide)
        refine lv_aload_n hx hb dX11_fits_48 rfl (lv_at hl 0 rfl) ?_
        refine va_get (D := (dC, dI)) (ci := 11) (v := .ref (ra 26)) (C := RX11) (T := TX11) (N := 61) hx hb hts hin11 hown hK hP 0 rfl rfl 48 (by decide) hw_0 (fun _ h9 => h9) rfl dX11_fits_49 ?_
        refine lv_iload hx hb dX11_fits_52 (lv_at hl 5 rfl) ?_
        refine va_zald hx hb hK hP 15 3 rfl rfl (iv_in b16 (by decide) (by decide)) dX11_fits_54 ?_
        refine lv_topi (fun z17 _ => ?_)
        refine lv_if_eq (tgt := 69) hx hb dX11_fits_55 (by decide) (fun c18 => ?_) (fun c18 => ?_)
        · have b19 : iv 0 0 z17 := iv_eqL c18 (iv_k (by decide) (by decide) : iv 0 0 0)
          exact hJ69 _ _ _ (b16) (hP.sub [0, 1, 2, 3, 4, 5, 6, 7, 8, 9, 10, 11, 12, 13, 14, 15] rfl) (hD.sub [0, 1, 2, 3, 4, 5, 6, 7, 8, 9, 10, 11, 12, 13, 14, 15] (by decide +kernel) rfl) hS (lv_sub hl [0, 1, 2, 3, 4, 5] rfl)
        · refine lv_iload hx hb dX11_fits_58 (lv_at hl 4 rfl) ?_
          refine lv_iconst (v := (-1)) hx hb dX11_fits_60 (by decide) ?_
          refine lv_icmp_ne (tgt := 69) hx hb dX11_fits_61 (by decide) (fun c20 => ?_) (fun c20 => ?_)
          · have b21 : iv 0 63 v41_loc4 := iv_neLo c20 h41_5 (iv_k (by decide) (by decide) : iv (-1) (-1) (-1)) (by decide) (by decide)
            exact hJ69 _ _ _ (b16) (hP.sub [0, 1, 2, 3, 4, 5, 6, 7, 8, 9, 10, 11, 12, 13, 14, 15] rfl) (hD.sub [0, 1, 2, 3, 4, 5, 6, 7, 8, 9, 10, 11, 12, 13, 14, 15] (by decide +kernel) rfl) hS (lv_sub hl [0, 1, 2, 3, 4, 5] rfl)
          · have b22 : iv (-1) (-1) v41_loc4 := iv_eqL c20 (iv_k (by decide) (by decide) : iv (-1) (-1) (-1))
            refine lv_iload hx hb dX11_fits_64 (lv_at hl 5 rfl) ?_
            refine lv_goto (tgt := 71) hx hb dX11_fits_66 (by decide) ?_
            exact hJ71 v41_loc5 _ _ _ (b16) ((iv_w b16 (by decide) (by decide))) (hP.sub [0, 1, 2, 3, 4, 5, 6, 7, 8, 9, 10, 11, 12, 13, 14, 15] rfl) (hD.sub [0, 1, 2, 3, 4, 5, 6, 7, 8, 9, 10, 11, 12, 13, 14, 15] (by decide +kernel) rfl) hS (lv_sub hl [0, 1, 2, 3, 4, 5] rfl)
  refine lv_aload_n hx hb dX11_fits_0 rfl (lv_at hl 0 rfl) ?_
  refine lv_iconst (v := 0) hx hb dX11_fits_1 (by decide) ?_
  refine va_put (D := (dC, dI)) (ci := 11) (v := .int 0) (ty := .int) (C := RX11) (T := TX11) (N := 61) hx hb hts hin11 tyX11 tyX11_ok nmX11 hown hK hP hD hS 0 rfl rfl 2 (by decide) hw_1 (fun _ h9 => h9) rfl (by decide +kernel) rfl rfl (Nat.le_of_ble_eq_true rfl) dX11_fits_2 (fun H locs hP hD hS => ?_)
  have hP : va_P (dC, dI) vwCl [(m0, .inr (11, oX11 ra (upd x0 0 0))), (ra 2, .inl (kI, 8, .inl q_told)), (ra 3, .inl (kI, 24, .inl q_kind)), (ra 4, .inl (kI, 24, .inl q_salt)), (ra 6, .inl (kI, 24, .inl q_mute)), (ra 7, .inl (kI, 24, .inl q_late)), (ra 8, .inl (kI, 40, .inl q_from)), (ra 9, .inl (kI, 40, .inl q_to)), (ra 10, .inl (kI, 6, .inl q_goal)), (ra 11, .inl (kI, 1019, .inl q_now)), (ra 14, .inl (kI, 12, .inl q_reach)), (ra 22, .inl (kI, 8, .inl q_notedPort)), (ra 23, .inl (kI, 8, .inl q_notedGoal)), (ra 24, .inl (kI, 8, .inl q_notedHop)), (ra 25, .inl (kI, 8, .inl q_notedAddress)), (ra 26, .inl (kZ, 64, .inl q_fitting))] H := hP
  have hD : va_D A [(m0, .inr (11, oX11 ra (upd x0 0 0))), (ra 2, .inl (kI, 8, .inl q_told)), (ra 3, .inl (kI, 24, .inl q_kind)), (ra 4, .inl (kI, 24, .inl q_salt)), (ra 6, .inl (kI, 24, .inl q_mute)), (ra 7, .inl (kI, 24, .inl q_late)), (ra 8, .inl (kI, 40, .inl q_from)), (ra 9, .inl (kI, 40, .inl q_to)), (ra 10, .inl (kI, 6, .inl q_goal)), (ra 11, .inl (kI, 1019, .inl q_now)), (ra 14, .inl (kI, 12, .inl q_reach)), (ra 22, .inl (kI, 8, .inl q_notedPort)), (ra 23, .inl (kI, 8, .inl q_notedGoal)), (ra 24, .inl (kI, 8, .inl q_notedHop)), (ra 25, .inl (kI, 8, .inl q_notedAddress)), (ra 26, .inl (kZ, 64, .inl q_fitting))] := hD
  refine lv_aload_n hx hb dX11_fits_5 rfl (lv_at hl 0 rfl) ?_
  refine lv_iload_n hx hb dX11_fits_6 rfl (lv_at hl 1 rfl) ?_
  have hPc := hP.sub (ws' := [(m0, .inr (11, oX11 ra (upd x0 0 0))), (ra 2, .inl (kI, 8, .inl q_told))]) [0, 1] rfl
  have hDc := hD.sub (ws' := [(m0, .inr (11, oX11 ra (upd x0 0 0))), (ra 2, .inl (kI, 8, .inl q_told))]) [0, 1] (by decide +kernel) rfl
  have hFc := va_free (wc := [(m0, .inr (11, oX11 ra (upd x0 0 0))), (ra 2, .inl (kI, 8, .inl q_told))]) hD hS hA [0, 1] rfl
  refine va_calli (va_runV (As := [.int p0]) (rest := []) ⟨hx, hb, hml, hown, hts⟩ (s11_isRouter l dC dI kB kI kJ kZ kC kS H.size m0 ra (upd x0 0 0) q_told p0 ((fI_u hX (k := 0) ((iv_w (iv_k (by decide) (by decide) : iv 0 0 0) (by decide) (by decide))))) (hq_told)) (cwV 1 hts gX11_fits_X11_isRouter rfl rfl rfl (by decide +kernel) ⟨Nat.le_of_ble_eq_true rfl, Nat.le_of_ble_eq_true rfl⟩) ⟨fun a U g mk q => by obtain ⟨q0, q1, qP, qE, qD⟩ := q; exact ⟨q0, q1, qP, kE_call qE, qD⟩, va_recv hK hP (ci := 11) (q0 := 0) rfl rfl, fun U hU hW => ⟨rfl, by rw [hU], by rw [hU]; exact hPc, kE_warm hW hE, hDc.weaken (fun _ _ _ _ => trivial)⟩⟩ rfl rfl hl.1 rfl (lv_room (Nat.le_of_ble_eq_true rfl)) dX11_fits_7 ⟨Nat.le_of_ble_eq_true rfl, Nat.le_of_ble_eq_true rfl⟩) hS (fun q _ h => hFc q h) hFc (fun r23 u t H1 locs ht hvm w24 hB hz1 hk1 hS => ?_)
  obtain ⟨hP1, hD1⟩ := hB
  rw [ht] at hP1
  try dsimp only at w24
  obtain ⟨hP, hD⟩ := va_join (wr := [(ra 3, .inl (kI, 24, .inl q_kind)), (ra 4, .inl (kI, 24, .inl q_salt)), (ra 6, .inl (kI, 24, .inl q_mute)), (ra 7, .inl (kI, 24, .inl q_late)), (ra 8, .inl (kI, 40, .inl q_from)), (ra 9, .inl (kI, 40, .inl q_to)), (ra 10, .inl (kI, 6, .inl q_goal)), (ra 11, .inl (kI, 1019, .inl q_now)), (ra 14, .inl (kI, 12, .inl q_reach)), (ra 22, .inl (kI, 8, .inl q_notedPort)), (ra 23, .inl (kI, 8, .inl q_notedGoal)), (ra 24, .inl (kI, 8, .inl q_notedHop)), (ra 25, .inl (kI, 8, .inl q_notedAddress)), (ra 26, .inl (kZ, 64, .inl q_fitting))]) (w1 := [(m0, .inr (11, oX11 ra (upd x0 0 0))), (ra 2, .inl (kI, 8, .inl q_told))]) hP hD [0, 1] [2, 3, 4, 5, 6, 7, 8, 9, 10, 11, 12, 13, 14, 15] rfl rfl (by decide +kernel) (by decide +kernel) hk1 hFc hP1 hD1
  generalize H1 = H at hP hS ⊢
  have hP : va_P (dC, dI) vwCl [(ra 3, .inl (kI, 24, .inl q_kind)), (ra 4, .inl (kI, 24, .inl q_salt)), (ra 6, .inl (kI, 24, .inl q_mute)), (ra 7, .inl (kI, 24, .inl q_late)), (ra 8, .inl (kI, 40, .inl q_from)), (ra 9, .inl (kI, 40, .inl q_to)), (ra 10, .inl (kI, 6, .inl q_goal)), (ra 11, .inl (kI, 1019, .inl q_now)), (ra 14, .inl (kI, 12, .inl q_reach)), (ra 22, .inl (kI, 8, .inl q_notedPort)), (ra 23, .inl (kI, 8, .inl q_notedGoal)), (ra 24, .inl (kI, 8, .inl q_notedHop)), (ra 25, .inl (kI, 8, .inl q_notedAddress)), (ra 26, .inl (kZ, 64, .inl q_fitting)), (m0, .inr (11, oX11 ra (upd x0 0 0))), (ra 2, .inl (kI, 8, .inl q_told))] H := hP
  have hD : va_D A [(ra 3, .inl (kI, 24, .inl q_kind)), (ra 4, .inl (kI, 24, .inl q_salt)), (ra 6, .inl (kI, 24, .inl q_mute)), (ra 7, .inl (kI, 24, .inl q_late)), (ra 8, .inl (kI, 40, .inl q_from)), (ra 9, .inl (kI, 40, .inl q_to)), (ra 10, .inl (kI, 6, .inl q_goal)), (ra 11, .inl (kI, 1019, .inl q_now)), (ra 14, .inl (kI, 12, .inl q_reach)), (ra 22, .inl (kI, 8, .inl q_notedPort)), (ra 23, .inl (kI, 8, .inl q_notedGoal)), (ra 24, .inl (kI, 8, .inl q_notedHop)), (ra 25, .inl (kI, 8, .inl q_notedAddress)), (ra 26, .inl (kZ, 64, .inl q_fitting)), (m0, .inr (11, oX11 ra (upd x0 0 0))), (ra 2, .inl (kI, 8, .inl q_told))] := hD
  refine W.widen (k := 0) (n := 0) (Nat.le_of_ble_eq_true rfl) (Nat.le_of_ble_eq_true rfl) ?_
  refine lv_if_eq (tgt := 22) hx hb dX11_fits_10 (by decide) (fun c25 => ?_) (fun c25 => ?_)
  · have b26 : iv 0 0 r23 := iv_eqL c25 (iv_k (by decide) (by decide) : iv 0 0 0)
    exact hJ22 (upd x0 0 0) _ _ _ ((fI_u hX (k := 0) ((iv_w (iv_k (by decide) (by decide) : iv 0 0 0) (by decide) (by decide))))) ((iv_k (by decide) (by decide) : iv 0 0 0)) (hP.sub [14, 15, 0, 1, 2, 3, 4, 5, 6, 7, 8, 9, 10, 11, 12, 13] rfl) (hD.sub [14, 15, 0, 1, 2, 3, 4, 5, 6, 7, 8, 9, 10, 11, 12, 13] (by decide +kernel) rfl) hS (lv_sub hl [0, 1, 2] rfl)
  · have b27 : iv 1 1 r23 := iv_neLo c25 w24.1 (iv_k (by decide) (by decide) : iv 0 0 0) (by decide) (by decide)
    have b28 : iv 0 11 p0 := (w24.2).resolve_left (iv_ne b27 (iv_k (by decide) (by decide) : iv 0 0 0) (by decide))
    refine lv_iload_n hx hb dX11_fits_13 rfl (lv_at hl 2 rfl) ?_
    refine lv_iconst (v := 0) hx hb dX11_fits_14 (by decide) ?_
    refine lv_iconst (v := 1) hx hb dX11_fits_15 (by decide) ?_
    have hPc := hP.sub (ws' := []) [] rfl
    have hDc := hD.sub (ws' := []) [] (by decide +kernel) rfl
    have hFc := va_free (wc := []) hD hS hA [] rfl
    refine va_calli (va_runS (As := [.int p1, .int 0, .int 1]) (rest := []) ⟨hx, hb, hml, hown, hts⟩ (s11_isIn l dC dI kB kI kJ kZ kC kS H.size p1 0 1) (va_cwS 3 hts gX11_fits_X11_isIn rfl rfl rfl (by decide +kernel) ⟨Nat.le_of_ble_eq_true rfl, Nat.le_of_ble_eq_true rfl⟩) ⟨fun a U g mk q => by obtain ⟨q0, q1, qP, qE, qD⟩ := q; exact ⟨q0, q1, qP, kE_call qE, qD⟩, fun U hU hW => ⟨rfl, by rw [hU], by rw [hU]; exact hPc, kE_warm hW hE, hDc.weaken (fun _ _ _ _ => trivial)⟩⟩ rfl rfl hl.1 rfl (lv_room (Nat.le_of_ble_eq_true rfl)) dX11_fits_16 ⟨Nat.le_of_ble_eq_true rfl, Nat.le_of_ble_eq_true rfl⟩) hS (fun q _ h => hFc q h) hFc (fun r29 u t H1 locs ht hvm w30 hB hz1 hk1 hS => ?_)
    obtain ⟨hP1, hD1⟩ := hB
    rw [ht] at hP1
    try dsimp only at w30
    obtain ⟨hP, hD⟩ := va_join (wr := [(ra 3, .inl (kI, 24, .inl q_kind)), (ra 4, .inl (kI, 24, .inl q_salt)), (ra 6, .inl (kI, 24, .inl q_mute)), (ra 7, .inl (kI, 24, .inl q_late)), (ra 8, .inl (kI, 40, .inl q_from)), (ra 9, .inl (kI, 40, .inl q_to)), (ra 10, .inl (kI, 6, .inl q_goal)), (ra 11, .inl (kI, 1019, .inl q_now)), (ra 14, .inl (kI, 12, .inl q_reach)), (ra 22, .inl (kI, 8, .inl q_notedPort)), (ra 23, .inl (kI, 8, .inl q_notedGoal)), (ra 24, .inl (kI, 8, .inl q_notedHop)), (ra 25, .inl (kI, 8, .inl q_notedAddress)), (ra 26, .inl (kZ, 64, .inl q_fitting)), (m0, .inr (11, oX11 ra (upd x0 0 0))), (ra 2, .inl (kI, 8, .inl q_told))]) (w1 := []) hP hD [] [0, 1, 2, 3, 4, 5, 6, 7, 8, 9, 10, 11, 12, 13, 14, 15] rfl rfl (by decide +kernel) (by decide +kernel) hk1 hFc hP1 hD1
    generalize H1 = H at hP hS ⊢
    have hP : va_P (dC, dI) vwCl [(ra 3, .inl (kI, 24, .inl q_kind)), (ra 4, .inl (kI, 24, .inl q_salt)), (ra 6, .inl (kI, 24, .inl q_mute)), (ra 7, .inl (kI, 24, .inl q_late)), (ra 8, .inl (kI, 40, .inl q_from)), (ra 9, .inl (kI, 40, .inl q_to)), (ra 10, .inl (kI, 6, .inl q_goal)), (ra 11, .inl (kI, 1019, .inl q_now)), (ra 14, .inl (kI, 12, .inl q_reach)), (ra 22, .inl (kI, 8, .inl q_notedPort)), (ra 23, .inl (kI, 8, .inl q_notedGoal)), (ra 24, .inl (kI, 8, .inl q_notedHop)), (ra 25, .inl (kI, 8, .inl q_notedAddress)), (ra 26, .inl (kZ, 64, .inl q_fitting)), (m0, .inr (11, oX11 ra (upd x0 0 0))), (ra 2, .inl (kI, 8, .inl q_told))] H := hP
    have hD : va_D A [(ra 3, .inl (kI, 24, .inl q_kind)), (ra 4, .inl (kI, 24, .inl q_salt)), (ra 6, .inl (kI, 24, .inl q_mute)), (ra 7, .inl (kI, 24, .inl q_late)), (ra 8, .inl (kI, 40, .inl q_from)), (ra 9, .inl (kI, 40, .inl q_to)), (ra 10, .inl (kI, 6, .inl q_goal)), (ra 11, .inl (kI, 1019, .inl q_now)), (ra 14, .inl (kI, 12, .inl q_reach)), (ra 22, .inl (kI, 8, .inl q_notedPort)), (ra 23, .inl (kI, 8, .inl q_notedGoal)), (ra 24, .inl (kI, 8, .inl q_notedHop)), (ra 25, .inl (kI, 8, .inl q_notedAddress)), (ra 26, .inl (kZ, 64, .inl q_fitting)), (m0, .inr (11, oX11 ra (upd x0 0 0))), (ra 2, .inl (kI, 8, .inl q_told))] := hD
    refine W.widen (k := 0) (n := 0) (Nat.le_of_ble_eq_true rfl) (Nat.le_of_ble_eq_true rfl) ?_
    refine lv_if_ne (tgt := 28) hx hb dX11_fits_19 (by decide) (fun c31 => ?_) (fun c31 => ?_)
    · have b32 : iv 1 1 r29 := iv_neLo c31 w30.1 (iv_k (by decide) (by decide) : iv 0 0 0) (by decide) (by decide)
      have hr33 := (w30.2).resolve_left (iv_ne b32 (iv_k (by decide) (by decide) : iv 0 0 0) (by decide))
      have b34 : iv 0 1 p1 := iv_cap (in_iv hr33 (iv_k (by decide) (by decide) : iv 0 0 0) (iv_k (by decide) (by decide) : iv 1 1 1)) (iv_t p1) (by decide) (by decide)
      refine lv_aload_n hx hb dX11_fits_28 rfl (lv_at hl 0 rfl) ?_
      refine lv_iload_n hx hb dX11_fits_29 rfl (lv_at hl 1 rfl) ?_
      have hPc := hP.sub (ws' := [(m0, .inr (11, oX11 ra (upd x0 0 0))), (ra 2, .inl (kI, 8, .inl q_told)), (ra 3, .inl (kI, 24, .inl q_kind)), (ra 4, .inl (kI, 24, .inl q_salt)), (ra 6, .inl (kI, 24, .inl q_mute)), (ra 7, .inl (kI, 24, .inl q_late)), (ra 8, .inl (kI, 40, .inl q_from)), (ra 9, .inl (kI, 40, .inl q_to)), (ra 10, .inl (kI, 6, .inl q_goal)), (ra 11, .inl (kI, 1019, .inl q_now)), (ra 14, .inl (kI, 12, .inl q_reach)), (ra 22, .inl (kI, 8, .inl q_notedPort)), (ra 23, .inl (kI, 8, .inl q_notedGoal)), (ra 24, .inl (kI, 8, .inl q_notedHop)), (ra 25, .inl (kI, 8, .inl q_notedAddress)), (ra 26, .inl (kZ, 64, .inl q_fitting))]) [14, 15, 0, 1, 2, 3, 4, 5, 6, 7, 8, 9, 10, 11, 12, 13] rfl
      have hDc := hD.sub (ws' := [(m0, .inr (11, oX11 ra (upd x0 0 0))), (ra 2, .inl (kI, 8, .inl q_told)), (ra 3, .inl (kI, 24, .inl q_kind)), (ra 4, .inl (kI, 24, .inl q_salt)), (ra 6, .inl (kI, 24, .inl q_mute)), (ra 7, .inl (kI, 24, .inl q_late)), (ra 8, .inl (kI, 40, .inl q_from)), (ra 9, .inl (kI, 40, .inl q_to)), (ra 10, .inl (kI, 6, .inl q_goal)), (ra 11, .inl (kI, 1019, .inl q_now)), (ra 14, .inl (kI, 12, .inl q_reach)), (ra 22, .inl (kI, 8, .inl q_notedPort)), (ra 23, .inl (kI, 8, .inl q_notedGoal)), (ra 24, .inl (kI, 8, .inl q_notedHop)), (ra 25, .inl (kI, 8, .inl q_notedAddress)), (ra 26, .inl (kZ, 64, .inl q_fitting))]) [14, 15, 0, 1, 2, 3, 4, 5, 6, 7, 8, 9, 10, 11, 12, 13] (by decide +kernel) rfl
      have hFc := va_free (wc := [(m0, .inr (11, oX11 ra (upd x0 0 0))), (ra 2, .inl (kI, 8, .inl q_told)), (ra 3, .inl (kI, 24, .inl q_kind)), (ra 4, .inl (kI, 24, .inl q_salt)), (ra 6, .inl (kI, 24, .inl q_mute)), (ra 7, .inl (kI, 24, .inl q_late)), (ra 8, .inl (kI, 40, .inl q_from)), (ra 9, .inl (kI, 40, .inl q_to)), (ra 10, .inl (kI, 6, .inl q_goal)), (ra 11, .inl (kI, 1019, .inl q_now)), (ra 14, .inl (kI, 12, .inl q_reach)), (ra 22, .inl (kI, 8, .inl q_notedPort)), (ra 23, .inl (kI, 8, .inl q_notedGoal)), (ra 24, .inl (kI, 8, .inl q_notedHop)), (ra 25, .inl (kI, 8, .inl q_notedAddress)), (ra 26, .inl (kZ, 64, .inl q_fitting))]) hD hS hA [14, 15, 0, 1, 2, 3, 4, 5, 6, 7, 8, 9, 10, 11, 12, 13] rfl
      refine va_callv (va_runV (As := [.int p0]) (rest := []) ⟨hx, hb, hml, hown, hts⟩ (s11_tellFits l dC dI kB kI kJ kZ kC kS H.size m0 ra (upd x0 0 0) q_told q_kind q_salt q_mute q_late q_from q_to q_goal q_now q_reach q_notedPort q_notedGoal q_notedHop q_notedAddress q_fitting p0 ((fI_u hX (k := 0) ((iv_w (iv_k (by decide) (by decide) : iv 0 0 0) (by decide) (by decide))))) (hq_told) (hq_salt) (hq_from) (hq_to) (hq_goal) (hq_now) (hq_notedPort) (hq_notedGoal) (b28) (hLT)) (cwV 1 hts gX11_fits_X11_tellFits rfl rfl rfl (by decide +kernel) ⟨Nat.le_of_ble_eq_true rfl, Nat.le_of_ble_eq_true rfl⟩) ⟨fun a U g mk q => by obtain ⟨q0, q1, qP, qE, qD⟩ := q; exact ⟨q0, q1, qP, kE_call qE, qD⟩, va_recv hK hP (ci := 11) (q0 := 14) rfl rfl, fun U hU hW => ⟨rfl, by rw [hU], by rw [hU]; exact hPc, kE_warm hW hE, hDc.weaken (fun _ _ _ _ => trivial)⟩⟩ rfl rfl hl.1 rfl (lv_room (Nat.le_of_ble_eq_true rfl)) dX11_fits_30 ⟨Nat.le_of_ble_eq_true rfl, Nat.le_of_ble_eq_true rfl⟩) hS (fun q _ h => hFc q h) hFc (fun u t H1 locs ht hvm w36 hB hz1 hk1 hS => ?_)
      obtain ⟨y37, f38, f39, hq40, hq41, hP1, hD1⟩ := hB
      rw [ht] at hP1
      try dsimp only at w36
      obtain ⟨hP, hD⟩ := va_join (wr := []) (w1 := [(m0, .inr (11, oX11 ra y37)), (ra 2, .inl (kI, 8, .inl q_told)), (ra 3, .inl (kI, 24, .inl q_kind)), (ra 4, .inl (kI, 24, .inl q_salt)), (ra 6, .inl (kI, 24, .inl q_mute)), (ra 7, .inl (kI, 24, .inl q_late)), (ra 8, .inl (kI, 40, .inl q_from)), (ra 9, .inl (kI, 40, .inl q_to)), (ra 10, .inl (kI, 6, .inl q_goal)), (ra 11, .inl (kI, 1019, .inl f38)), (ra 14, .inl (kI, 12, .inl q_reach)), (ra 22, .inl (kI, 8, .inl q_notedPort)), (ra 23, .inl (kI, 8, .inl q_notedGoal)), (ra 24, .inl (kI, 8, .inl q_notedHop)), (ra 25, .inl (kI, 8, .inl q_notedAddress)), (ra 26, .inl (kZ, 64, .inl f39))]) hP hD [14, 15, 0, 1, 2, 3, 4, 5, 6, 7, 8, 9, 10, 11, 12, 13] [] rfl rfl (by decide +kernel) (by decide +kernel) hk1 hFc hP1 hD1
      generalize H1 = H at hP hS ⊢
      have hP : va_P (dC, dI) vwCl [(m0, .inr (11, oX11 ra y37)), (ra 2, .inl (kI, 8, .inl q_told)), (ra 3, .inl (kI, 24, .inl q_kind)), (ra 4, .inl (kI, 24, .inl q_salt)), (ra 6, .inl (kI, 24, .inl q_mute)), (ra 7, .inl (kI, 24, .inl q_late)), (ra 8, .inl (kI, 40, .inl q_from)), (ra 9, .inl (kI, 40, .inl q_to)), (ra 10, .inl (kI, 6, .inl q_goal)), (ra 11, .inl (kI, 1019, .inl f38)), (ra 14, .inl (kI, 12, .inl q_reach)), (ra 22, .inl (kI, 8, .inl q_notedPort)), (ra 23, .inl (kI, 8, .inl q_notedGoal)), (ra 24, .inl (kI, 8, .inl q_notedHop)), (ra 25, .inl (kI, 8, .inl q_notedAddress)), (ra 26, .inl (kZ, 64, .inl f39))] H := hP
      have hD : va_D A [(m0, .inr (11, oX11 ra y37)), (ra 2, .inl (kI, 8, .inl q_told)), (ra 3, .inl (kI, 24, .inl q_kind)), (ra 4, .inl (kI, 24, .inl q_salt)), (ra 6, .inl (kI, 24, .inl q_mute)), (ra 7, .inl (kI, 24, .inl q_late)), (ra 8, .inl (kI, 40, .inl q_from)), (ra 9, .inl (kI, 40, .inl q_to)), (ra 10, .inl (kI, 6, .inl q_goal)), (ra 11, .inl (kI, 1019, .inl f38)), (ra 14, .inl (kI, 12, .inl q_reach)), (ra 22, .inl (kI, 8, .inl q_notedPort)), (ra 23, .inl (kI, 8, .inl q_notedGoal)), (ra 24, .inl (kI, 8, .inl q_notedHop)), (ra 25, .inl (kI, 8, .inl q_notedAddress)), (ra 26, .inl (kZ, 64, .inl f39))] := hD
      refine W.widen (k := 0) (n := 0) (Nat.le_of_ble_eq_true rfl) (Nat.le_of_ble_eq_true rfl) ?_
      refine lv_iconst (v := 0) hx hb dX11_fits_33 (by decide) ?_
      refine lv_istore_n (lv' := [(3, .int 0), (0, .ref m0), (1, .int p0), (2, .int p1)]) hx hb dX11_fits_34 rfl hl (by decide) rfl (fun ls hl => ?_)
      refine lv_iconst (v := (-1)) hx hb dX11_fits_35 (by decide) ?_
      refine lv_istore (lv' := [(4, .int (-1)), (3, .int 0), (0, .ref m0), (1, .int p0), (2, .int p1)]) hx hb dX11_fits_36 hl (by decide) rfl (fun ls hl => ?_)
      refine lv_iconst (v := 0) hx hb dX11_fits_38 (by decide) ?_
      refine lv_istore (lv' := [(5, .int 0), (4, .int (-1)), (3, .int 0), (0, .ref m0), (1, .int p0), (2, .int p1)]) hx hb dX11_fits_39 hl (by decide) rfl (fun ls hl => ?_)
      exact hJ41 _ y37 f38 f39 0 (-1) 0 _ _ _ (Nat.lt_succ_self _) (hq40) (hq41) (b28) (b34) ((iv_w (iv_k (by decide) (by decide) : iv (-1) (-1) (-1)) (by decide) (by decide))) ((iv_w (iv_k (by decide) (by decide) : iv 0 0 0) (by decide) (by decide))) (hP.sub [0, 1, 2, 3, 4, 5, 6, 7, 8, 9, 10, 11, 12, 13, 14, 15] rfl) (hD.sub [0, 1, 2, 3, 4, 5, 6, 7, 8, 9, 10, 11, 12, 13, 14, 15] (by decide +kernel) rfl) hS (lv_sub hl [3, 4, 5, 2, 1, 0] rfl)
    · have b42 : iv 0 0 r29 := iv_eqL c31 (iv_k (by decide) (by decide) : iv 0 0 0)
      exact hJ22 (upd x0 0 0) _ _ _ ((fI_u hX (k := 0) ((iv_w (iv_k (by decide) (by decide) : iv 0 0 0) (by decide) (by decide))))) ((iv_k (by decide) (by decide) : iv 0 0 0)) (hP.sub [14, 15, 0, 1, 2, 3, 4, 5, 6, 7, 8, 9, 10, 11, 12, 13] rfl) (hD.sub [14, 15, 0, 1, 2, 3, 4, 5, 6, 7, 8, 9, 10, 11, 12, 13] (by decide +kernel) rfl) hS (lv_sub hl [0, 1, 2] rfl)
def rm_s11_look : Room := { frames := 6, cells := 0, slots := 0, locals := 149 }
set_option maxHeartbeats 4000000 in
set_option maxRecDepth 100000 in
theorem s11_look (l : Launch) (dC : Nat → ClassId) (dI : Nat → Nat → Nat) (kB kI kJ kZ kC kS : ClassId) (sz : Nat) (m0 : Nat) (ra : Nat → Nat) (x0 : Nat → Int32) (q_told : Nat → Int32) (q_kind : Nat → Int32) (q_salt : Nat → Int32) (q_mute : Nat → Int32) (q_late : Nat → Int32) (q_from : Nat → Int32) (q_to : Nat → Int32) (q_goal : Nat → Int32) (q_now : Nat → Int32) (q_reach : Nat → Int32) (q_notedPort : Nat → Int32) (q_notedGoal : Nat → Int32) (q_notedHop : Nat → Int32) (q_notedAddress : Nat → Int32) (q_fitting : Nat → Int32) (p0 : Int32) (p1 : Int32) (p2 : Int32) (hX : fI lX11 hX11 x0) (hq_told : fI lTold hTold q_told) (hq_salt : fI (fun _ => 0) (fun _ => 15) q_salt) (hq_from : fI (fun _ => 0) (fun _ => 11) q_from) (hq_to : fI (fun _ => 0) (fun _ => 11) q_to) (hq_goal : fI (fun _ => 0) (fun _ => 11) q_goal) (hq_now : fI lNow hNow q_now) (hq_notedPort : fI (fun _ => 0) (fun _ => 31) q_notedPort) (hq_notedGoal : fI (fun _ => 0) (fun _ => 2) q_notedGoal) (hLT : ∀ j : Nat, (j : Int) < (q_told 1).toInt → (q_from j).toInt < (q_to j).toInt) : Met l yX11_look wsX11_look rm_s11_look (va_Pc [.ref m0, .int p0, .int p1, .int p2] (fun U => U.heap.size = sz ∧ va_P (dC, dI) vwCl [(m0, .inr (11, oX11 ra x0)), (ra 2, .inl (kI, 8, .inl q_told)), (ra 3, .inl (kI, 24, .inl q_kind)), (ra 4, .inl (kI, 24, .inl q_salt)), (ra 6, .inl (kI, 24, .inl q_mute)), (ra 7, .inl (kI, 24, .inl q_late)), (ra 8, .inl (kI, 40, .inl q_from)), (ra 9, .inl (kI, 40, .inl q_to)), (ra 10, .inl (kI, 6, .inl q_goal)), (ra 11, .inl (kI, 1019, .inl q_now)), (ra 14, .inl (kI, 12, .inl q_reach)), (ra 22, .inl (kI, 8, .inl q_notedPort)), (ra 23, .inl (kI, 8, .inl q_notedGoal)), (ra 24, .inl (kI, 8, .inl q_notedHop)), (ra 25, .inl (kI, 8, .inl q_notedAddress)), (ra 26, .inl (kZ, 64, .inl q_fitting))] U.heap ∧ kE dC dI kB kI kJ kZ kC kS U ∧ va_D (fun _ => True) [(m0, .inr (11, oX11 ra x0)), (ra 2, .inl (kI, 8, .inl q_told)), (ra 3, .inl (kI, 24, .inl q_kind)), (ra 4, .inl (kI, 24, .inl q_salt)), (ra 6, .inl (kI, 24, .inl q_mute)), (ra 7, .inl (kI, 24, .inl q_late)), (ra 8, .inl (kI, 40, .inl q_from)), (ra 9, .inl (kI, 40, .inl q_to)), (ra 10, .inl (kI, 6, .inl q_goal)), (ra 11, .inl (kI, 1019, .inl q_now)), (ra 14, .inl (kI, 12, .inl q_reach)), (ra 22, .inl (kI, 8, .inl q_notedPort)), (ra 23, .inl (kI, 8, .inl q_notedGoal)), (ra 24, .inl (kI, 8, .inl q_notedHop)), (ra 25, .inl (kI, 8, .inl q_notedAddress)), (ra 26, .inl (kZ, 64, .inl q_fitting))])) (va_Qi (fun (r : Int32) (_ : Unit) => iv (-1) 2147483647 r) (fun _ t => ∃ (x0' : Nat → Int32) (q_now' : Nat → Int32) (q_fitting' : Nat → Int32), fI lX11 hX11 x0' ∧ fI lNow hNow q_now' ∧ va_P (dC, dI) vwCl [(m0, .inr (11, oX11 ra x0')), (ra 2, .inl (kI, 8, .inl q_told)), (ra 3, .inl (kI, 24, .inl q_kind)), (ra 4, .inl (kI, 24, .inl q_salt)), (ra 6, .inl (kI, 24, .inl q_mute)), (ra 7, .inl (kI, 24, .inl q_late)), (ra 8, .inl (kI, 40, .inl q_from)), (ra 9, .inl (kI, 40, .inl q_to)), (ra 10, .inl (kI, 6, .inl q_goal)), (ra 11, .inl (kI, 1019, .inl q_now')), (ra 14, .inl (kI, 12, .inl q_reach)), (ra 22, .inl (kI, 8, .inl q_notedPort)), (ra 23, .inl (kI, 8, .inl q_notedGoal)), (ra 24, .inl (kI, 8, .inl q_notedHop)), (ra 25, .inl (kI, 8, .inl q_notedAddress)), (ra 26, .inl (kZ, 64, .inl q_fitting'))] t.heap ∧ va_D (va_A [(m0, .inr (11, oX11 ra x0)), (ra 2, .inl (kI, 8, .inl q_told)), (ra 3, .inl (kI, 24, .inl q_kind)), (ra 4, .inl (kI, 24, .inl q_salt)), (ra 6, .inl (kI, 24, .inl q_mute)), (ra 7, .inl (kI, 24, .inl q_late)), (ra 8, .inl (kI, 40, .inl q_from)), (ra 9, .inl (kI, 40, .inl q_to)), (ra 10, .inl (kI, 6, .inl q_goal)), (ra 11, .inl (kI, 1019, .inl q_now)), (ra 14, .inl (kI, 12, .inl q_reach)), (ra 22, .inl (kI, 8, .inl q_notedPort)), (ra 23, .inl (kI, 8, .inl q_notedGoal)), (ra 24, .inl (kI, 8, .inl q_notedHop)), (ra 25, .inl (kI, 8, .inl q_notedAddress)), (ra 26, .inl (kZ, 64, .inl q_fitting))] sz) [(m0, .inr (11, oX11 ra x0')), (ra 2, .inl (kI, 8, .inl q_told)), (ra 3, .inl (kI, 24, .inl q_kind)), (ra 4, .inl (kI, 24, .inl q_salt)), (ra 6, .inl (kI, 24, .inl q_mute)), (ra 7, .inl (kI, 24, .inl q_late)), (ra 8, .inl (kI, 40, .inl q_from)), (ra 9, .inl (kI, 40, .inl q_to)), (ra 10, .inl (kI, 6, .inl q_goal)), (ra 11, .inl (kI, 1019, .inl q_now')), (ra 14, .inl (kI, 12, .inl q_reach)), (ra 22, .inl (kI, 8, .inl q_notedPort)), (ra 23, .inl (kI, 8, .inl q_notedGoal)), (ra 24, .inl (kI, 8, .inl q_notedHop)), (ra 25, .inl (kI, 8, .inl q_notedAddress)), (ra 26, .inl (kZ, 64, .inl q_fitting'))]) (va_A [(m0, .inr (11, oX11 ra x0)), (ra 2, .inl (kI, 8, .inl q_told)), (ra 3, .inl (kI, 24, .inl q_kind)), (ra 4, .inl (kI, 24, .inl q_salt)), (ra 6, .inl (kI, 24, .inl q_mute)), (ra 7, .inl (kI, 24, .inl q_late)), (ra 8, .inl (kI, 40, .inl q_from)), (ra 9, .inl (kI, 40, .inl q_to)), (ra 10, .inl (kI, 6, .inl q_goal)), (ra 11, .inl (kI, 1019, .inl q_now)), (ra 14, .inl (kI, 12, .inl q_reach)), (ra 22, .inl (kI, 8, .inl q_notedPort)), (ra 23, .inl (kI, 8, .inl q_notedGoal)), (ra 24, .inl (kI, 8, .inl q_notedHop)), (ra 25, .inl (kI, 8, .inl q_notedAddress)), (ra 26, .inl (kZ, 64, .inl q_fitting))] sz)) 0 0 (va_A [(m0, .inr (11, oX11 ra x0)), (ra 2, .inl (kI, 8, .inl q_told)), (ra 3, .inl (kI, 24, .inl q_kind)), (ra 4, .inl (kI, 24, .inl q_salt)), (ra 6, .inl (kI, 24, .inl q_mute)), (ra 7, .inl (kI, 24, .inl q_late)), (ra 8, .inl (kI, 40, .inl q_from)), (ra 9, .inl (kI, 40, .inl q_to)), (ra 10, .inl (kI, 6, .inl q_goal)), (ra 11, .inl (kI, 1019, .inl q_now)), (ra 14, .inl (kI, 12, .inl q_reach)), (ra 22, .inl (kI, 8, .inl q_notedPort)), (ra 23, .inl (kI, 8, .inl q_notedGoal)), (ra 24, .inl (kI, 8, .inl q_notedHop)), (ra 25, .inl (kI, 8, .inl q_notedAddress)), (ra 26, .inl (kZ, 64, .inl q_fitting))] sz) := by
  refine Met.ofW (cc := cX11_look) (maxL := 8) (ret := (some .int)) (by decide) rfl ?_
  intro p e s m args0 below meth c s₁ B hml hv
  obtain ⟨hargs, hsz, hP, hE, hD0⟩ := hv
  have hx := B.exec
  have hb := B.bytes
  have hr := B.returns
  have hts := atoms_spec (ws := wsX11_look) B.pre
  have hown : s.vm.findClass RX11 = some m.cls := findClass_of_methodNamed B.named
  have hlocks := B.notSynchronized
  have hK := hE.1
  have hin11 : ∀ w ∈ wsX110, w ∈ wsX11_look := fun _ h9 => List.mem_cons_of_mem _ (List.mem_append_right _ h9)
  have hw_0 := hts (.fieldLink RX11 142 "PathProberModel" "code" "I") (List.mem_of_getElem? (i := 1) (by decide +kernel))
  subst hsz
  have hD := hD0.self (sz := s.heap.size)
  generalize hAe : va_A [(m0, .inr (11, oX11 ra x0)), (ra 2, .inl (kI, 8, .inl q_told)), (ra 3, .inl (kI, 24, .inl q_kind)), (ra 4, .inl (kI, 24, .inl q_salt)), (ra 6, .inl (kI, 24, .inl q_mute)), (ra 7, .inl (kI, 24, .inl q_late)), (ra 8, .inl (kI, 40, .inl q_from)), (ra 9, .inl (kI, 40, .inl q_to)), (ra 10, .inl (kI, 6, .inl q_goal)), (ra 11, .inl (kI, 1019, .inl q_now)), (ra 14, .inl (kI, 12, .inl q_reach)), (ra 22, .inl (kI, 8, .inl q_notedPort)), (ra 23, .inl (kI, 8, .inl q_notedGoal)), (ra 24, .inl (kI, 8, .inl q_notedHop)), (ra 25, .inl (kI, 8, .inl q_notedAddress)), (ra 26, .inl (kZ, 64, .inl q_fitting))] s.heap.size = A at hD ⊢
  have hA : ∀ q : Nat, s.heap.size ≤ q → A q := fun q h => by rw [← hAe]; exact Or.inr h
  have hS : va_S A s.heap s.heap [] := va_S.rf
  have hP : va_P (dC, dI) vwCl [(m0, .inr (11, oX11 ra x0)), (ra 2, .inl (kI, 8, .inl q_told)), (ra 3, .inl (kI, 24, .inl q_kind)), (ra 4, .inl (kI, 24, .inl q_salt)), (ra 6, .inl (kI, 24, .inl q_mute)), (ra 7, .inl (kI, 24, .inl q_late)), (ra 8, .inl (kI, 40, .inl q_from)), (ra 9, .inl (kI, 40, .inl q_to)), (ra 10, .inl (kI, 6, .inl q_goal)), (ra 11, .inl (kI, 1019, .inl q_now)), (ra 14, .inl (kI, 12, .inl q_reach)), (ra 22, .inl (kI, 8, .inl q_notedPort)), (ra 23, .inl (kI, 8, .inl q_notedGoal)), (ra 24, .inl (kI, 8, .inl q_notedHop)), (ra 25, .inl (kI, 8, .inl q_notedAddress)), (ra 26, .inl (kZ, 64, .inl q_fitting))] s.heap := hP
  have hl := lv_entry ([.ref m0, .int p0, .int p1, .int p2]) (n := 8) (Nat.le_of_ble_eq_true rfl)
  have hla : entryFrame m args0 8 = entryFrame m ([.ref m0, .int p0, .int p1, .int p2] : List Value).toArray 8 := by rw [hargs]
  rw [hla, lg_entry_eq]
  generalize (lg_sl ([.ref m0, .int p0, .int p1, .int p2]) ++ List.replicate (8 - (lg_sl ([.ref m0, .int p0, .int p1, .int p2])).length) Slot.unset).toArray = ls at hl ⊢
  have hl : lv_has ls 8 [(0, .ref m0), (1, .int p0), (2, .int p1), (3, .int p2)] := hl
  have hJ30 : ∀ (y30_0 : Nat → Int32) (H : Heap) (locs : List Loc) (ls : Array Slot), fI lX11 hX11 y30_0 → iv 0 0 (y30_0 0) → va_P (dC, dI) vwCl [(m0, .inr (11, oX11 ra y30_0)), (ra 2, .inl (kI, 8, .inl q_told)), (ra 3, .inl (kI, 24, .inl q_kind)), (ra 4, .inl (kI, 24, .inl q_salt)), (ra 6, .inl (kI, 24, .inl q_mute)), (ra 7, .inl (kI, 24, .inl q_late)), (ra 8, .inl (kI, 40, .inl q_from)), (ra 9, .inl (kI, 40, .inl q_to)), (ra 10, .inl (kI, 6, .inl q_goal)), (ra 11, .inl (kI, 1019, .inl q_now)), (ra 14, .inl (kI, 12, .inl q_reach)), (ra 22, .inl (kI, 8, .inl q_notedPort)), (ra 23, .inl (kI, 8, .inl q_notedGoal)), (ra 24, .inl (kI, 8, .inl q_notedHop)), (ra 25, .inl (kI, 8, .inl q_notedAddress)), (ra 26, .inl (kZ, 64, .inl q_fitting))] H → va_D A [(m0, .inr (11, oX11 ra y30_0)), (ra 2, .inl (kI, 8, .inl q_told)), (ra 3, .inl (kI, 24, .inl q_kind)), (ra 4, .inl (kI, 24, .inl q_salt)), (ra 6, .inl (kI, 24, .inl q_mute)), (ra 7, .inl (kI, 24, .inl q_late)), (ra 8, .inl (kI, 40, .inl q_from)), (ra 9, .inl (kI, 40, .inl q_to)), (ra 10, .inl (kI, 6, .inl q_goal)), (ra 11, .inl (kI, 1019, .inl q_now)), (ra 14, .inl (kI, 12, .inl q_reach)), (ra 22, .inl (kI, 8, .inl q_notedPort)), (ra 23, .inl (kI, 8, .inl q_notedGoal)), (ra 24, .inl (kI, 8, .inl q_notedHop)), (ra 25, .inl (kI, 8, .inl q_notedAddress)), (ra 26, .inl (kZ, 64, .inl q_fitting))] → va_S A s.heap H locs → lv_has ls 8 [(0, .ref m0), (1, .int p0), (2, .int p1), (3, .int p2)] → W p l e (headSpec wsX11_look rm_s11_look).room s m args0 below meth c H locs (0) (0) (MQ below (va_Qi (fun (r : Int32) (_ : Unit) => iv (-1) 2147483647 r) (fun _ t => ∃ (x0' : Nat → Int32) (q_now' : Nat → Int32) (q_fitting' : Nat → Int32), fI lX11 hX11 x0' ∧ fI lNow hNow q_now' ∧ va_P (dC, dI) vwCl [(m0, .inr (11, oX11 ra x0')), (ra 2, .inl (kI, 8, .inl q_told)), (ra 3, .inl (kI, 24, .inl q_kind)), (ra 4, .inl (kI, 24, .inl q_salt)), (ra 6, .inl (kI, 24, .inl q_mute)), (ra 7, .inl (kI, 24, .inl q_late)), (ra 8, .inl (kI, 40, .inl q_from)), (ra 9, .inl (kI, 40, .inl q_to)), (ra 10, .inl (kI, 6, .inl q_goal)), (ra 11, .inl (kI, 1019, .inl q_now')), (ra 14, .inl (kI, 12, .inl q_reach)), (ra 22, .inl (kI, 8, .inl q_notedPort)), (ra 23, .inl (kI, 8, .inl q_notedGoal)), (ra 24, .inl (kI, 8, .inl q_notedHop)), (ra 25, .inl (kI, 8, .inl q_notedAddress)), (ra 26, .inl (kZ, 64, .inl q_fitting'))] t.heap ∧ va_D A [(m0, .inr (11, oX11 ra x0')), (ra 2, .inl (kI, 8, .inl q_told)), (ra 3, .inl (kI, 24, .inl q_kind)), (ra 4, .inl (kI, 24, .inl q_salt)), (ra 6, .inl (kI, 24, .inl q_mute)), (ra 7, .inl (kI, 24, .inl q_late)), (ra 8, .inl (kI, 40, .inl q_from)), (ra 9, .inl (kI, 40, .inl q_to)), (ra 10, .inl (kI, 6, .inl q_goal)), (ra 11, .inl (kI, 1019, .inl q_now')), (ra 14, .inl (kI, 12, .inl q_reach)), (ra 22, .inl (kI, 8, .inl q_notedPort)), (ra 23, .inl (kI, 8, .inl q_notedGoal)), (ra 24, .inl (kI, 8, .inl q_notedHop)), (ra 25, .inl (kI, 8, .inl q_notedAddress)), (ra 26, .inl (kZ, 64, .inl q_fitting'))]) A) args0 s 0 0 A) (F0 m 30 ls []) := by
    intro y30_0 H locs ls hI30_0 h30_2 hP hD hS hl
    refine lv_aload_n hx hb dX11_look_30 rfl (lv_at hl 0 rfl) ?_
    refine lv_iconst (v := 1) hx hb dX11_look_31 (by decide) ?_
    have hPc := hP.sub (ws' := [(m0, .inr (11, oX11 ra y30_0))]) [0] rfl
    have hDc := hD.sub (ws' := [(m0, .inr (11, oX11 ra y30_0))]) [0] (by decide +kernel) rfl
    have hFc := va_free (wc := [(m0, .inr (11, oX11 ra y30_0))]) hD hS hA [0] rfl
    refine va_calli (va_runV (As := [.int 1]) (rest := []) ⟨hx, hb, hml, hown, hts⟩ (s11_fail l dC dI kB kI kJ kZ kC kS H.size m0 ra y30_0 1 (hI30_0)) (cwV 1 hts gX11_look_X11_fail rfl rfl rfl (by decide +kernel) ⟨Nat.le_of_ble_eq_true rfl, Nat.le_of_ble_eq_true rfl⟩) ⟨fun a U g mk q => by obtain ⟨q0, q1, qP, qE, qD⟩ := q; exact ⟨q0, q1, qP, kE_call qE, qD⟩, va_recv hK hP (ci := 11) (q0 := 0) rfl rfl, fun U hU hW => ⟨rfl, by rw [hU], by rw [hU]; exact hPc, kE_warm hW hE, hDc.weaken (fun _ _ _ _ => trivial)⟩⟩ rfl rfl hl.1 rfl (lv_room (Nat.le_of_ble_eq_true rfl)) dX11_look_32 ⟨Nat.le_of_ble_eq_true rfl, Nat.le_of_ble_eq_true rfl⟩) hS (fun q _ h => hFc q h) hFc (fun r1 u t H1 locs ht hvm w2 hB hz1 hk1 hS => ?_)
    obtain ⟨y3, hq4, hq5, hP1, hD1⟩ := hB
    rw [ht] at hP1
    try dsimp only at w2
    obtain ⟨hP, hD⟩ := va_join (wr := [(ra 2, .inl (kI, 8, .inl q_told)), (ra 3, .inl (kI, 24, .inl q_kind)), (ra 4, .inl (kI, 24, .inl q_salt)), (ra 6, .inl (kI, 24, .inl q_mute)), (ra 7, .inl (kI, 24, .inl q_late)), (ra 8, .inl (kI, 40, .inl q_from)), (ra 9, .inl (kI, 40, .inl q_to)), (ra 10, .inl (kI, 6, .inl q_goal)), (ra 11, .inl (kI, 1019, .inl q_now)), (ra 14, .inl (kI, 12, .inl q_reach)), (ra 22, .inl (kI, 8, .inl q_notedPort)), (ra 23, .inl (kI, 8, .inl q_notedGoal)), (ra 24, .inl (kI, 8, .inl q_notedHop)), (ra 25, .inl (kI, 8, .inl q_notedAddress)), (ra 26, .inl (kZ, 64, .inl q_fitting))]) (w1 := [(m0, .inr (11, oX11 ra y3))]) hP hD [0] [1, 2, 3, 4, 5, 6, 7, 8, 9, 10, 11, 12, 13, 14, 15] rfl rfl (by decide +kernel) (by decide +kernel) hk1 hFc hP1 hD1
    generalize H1 = H at hP hS ⊢
    have hP : va_P (dC, dI) vwCl [(ra 2, .inl (kI, 8, .inl q_told)), (ra 3, .inl (kI, 24, .inl q_kind)), (ra 4, .inl (kI, 24, .inl q_salt)), (ra 6, .inl (kI, 24, .inl q_mute)), (ra 7, .inl (kI, 24, .inl q_late)), (ra 8, .inl (kI, 40, .inl q_from)), (ra 9, .inl (kI, 40, .inl q_to)), (ra 10, .inl (kI, 6, .inl q_goal)), (ra 11, .inl (kI, 1019, .inl q_now)), (ra 14, .inl (kI, 12, .inl q_reach)), (ra 22, .inl (kI, 8, .inl q_notedPort)), (ra 23, .inl (kI, 8, .inl q_notedGoal)), (ra 24, .inl (kI, 8, .inl q_notedHop)), (ra 25, .inl (kI, 8, .inl q_notedAddress)), (ra 26, .inl (kZ, 64, .inl q_fitting)), (m0, .inr (11, oX11 ra y3))] H := hP
    have hD : va_D A [(ra 2, .inl (kI, 8, .inl q_told)), (ra 3, .inl (kI, 24, .inl q_kind)), (ra 4, .inl (kI, 24, .inl q_salt)), (ra 6, .inl (kI, 24, .inl q_mute)), (ra 7, .inl (kI, 24, .inl q_late)), (ra 8, .inl (kI, 40, .inl q_from)), (ra 9, .inl (kI, 40, .inl q_to)), (ra 10, .inl (kI, 6, .inl q_goal)), (ra 11, .inl (kI, 1019, .inl q_now)), (ra 14, .inl (kI, 12, .inl q_reach)), (ra 22, .inl (kI, 8, .inl q_notedPort)), (ra 23, .inl (kI, 8, .inl q_notedGoal)), (ra 24, .inl (kI, 8, .inl q_notedHop)), (ra 25, .inl (kI, 8, .inl q_notedAddress)), (ra 26, .inl (kZ, 64, .inl q_fitting)), (m0, .inr (11, oX11 ra y3))] := hD
    refine W.widen (k := 0) (n := 0) (Nat.le_of_ble_eq_true rfl) (Nat.le_of_ble_eq_true rfl) ?_
    obtain rfl : r1 = 0 := iv_one w2 (by decide)
    have hP9 := hP.sub (ws' := [(m0, .inr (11, oX11 ra y3)), (ra 2, .inl (kI, 8, .inl q_told)), (ra 3, .inl (kI, 24, .inl q_kind)), (ra 4, .inl (kI, 24, .inl q_salt)), (ra 6, .inl (kI, 24, .inl q_mute)), (ra 7, .inl (kI, 24, .inl q_late)), (ra 8, .inl (kI, 40, .inl q_from)), (ra 9, .inl (kI, 40, .inl q_to)), (ra 10, .inl (kI, 6, .inl q_goal)), (ra 11, .inl (kI, 1019, .inl q_now)), (ra 14, .inl (kI, 12, .inl q_reach)), (ra 22, .inl (kI, 8, .inl q_notedPort)), (ra 23, .inl (kI, 8, .inl q_notedGoal)), (ra 24, .inl (kI, 8, .inl q_notedHop)), (ra 25, .inl (kI, 8, .inl q_notedAddress)), (ra 26, .inl (kZ, 64, .inl q_fitting))]) [15, 0, 1, 2, 3, 4, 5, 6, 7, 8, 9, 10, 11, 12, 13, 14] rfl
    have hD9 := hD.sub (ws' := [(m0, .inr (11, oX11 ra y3)), (ra 2, .inl (kI, 8, .inl q_told)), (ra 3, .inl (kI, 24, .inl q_kind)), (ra 4, .inl (kI, 24, .inl q_salt)), (ra 6, .inl (kI, 24, .inl q_mute)), (ra 7, .inl (kI, 24, .inl q_late)), (ra 8, .inl (kI, 40, .inl q_from)), (ra 9, .inl (kI, 40, .inl q_to)), (ra 10, .inl (kI, 6, .inl q_goal)), (ra 11, .inl (kI, 1019, .inl q_now)), (ra 14, .inl (kI, 12, .inl q_reach)), (ra 22, .inl (kI, 8, .inl q_notedPort)), (ra 23, .inl (kI, 8, .inl q_notedGoal)), (ra 24, .inl (kI, 8, .inl q_notedHop)), (ra 25, .inl (kI, 8, .inl q_notedAddress)), (ra 26, .inl (kZ, 64, .inl q_fitting))]) [15, 0, 1, 2, 3, 4, 5, 6, 7, 8, 9, 10, 11, 12, 13, 14] (by decide +kernel) rfl
    exact W.iret (v := 0) hx hb hr (fun t ht hW => ⟨⟨0, (), rfl, (iv_w (iv_k (by decide) (by decide) : iv 0 0 0) (by decide) (by decide)), y3, q_now, q_fitting, hq4, hq_now, by rw [ht]; exact hP9, hD9⟩, hS.F ht⟩) hS.2.2 dX11_look_35
  have hJ50 : ∀ (n : Nat) (y50_0 : Nat → Int32) (g50_9 : Nat → Int32) (g50_15 : Nat → Int32) (v50_loc4 : Int32) (v50_loc5 : Int32) (v50_loc6 : Int32) (H : Heap) (locs : List Loc) (ls : Array Slot), (32 - v50_loc6.toInt).toNat < n → fI lX11 hX11 y50_0 → fI lNow hNow g50_9 → iv 0 11 p0 → iv 0 2 p1 → iv 0 1 p2 → iv (-1) 31 v50_loc4 → iv 0 2147483647 v50_loc5 → iv 0 32 v50_loc6 → va_P (dC, dI) vwCl [(m0, .inr (11, oX11 ra y50_0)), (ra 2, .inl (kI, 8, .inl q_told)), (ra 3, .inl (kI, 24, .inl q_kind)), (ra 4, .inl (kI, 24, .inl q_salt)), (ra 6, .inl (kI, 24, .inl q_mute)), (ra 7, .inl (kI, 24, .inl q_late)), (ra 8, .inl (kI, 40, .inl q_from)), (ra 9, .inl (kI, 40, .inl q_to)), (ra 10, .inl (kI, 6, .inl q_goal)), (ra 11, .inl (kI, 1019, .inl g50_9)), (ra 14, .inl (kI, 12, .inl q_reach)), (ra 22, .inl (kI, 8, .inl q_notedPort)), (ra 23, .inl (kI, 8, .inl q_notedGoal)), (ra 24, .inl (kI, 8, .inl q_notedHop)), (ra 25, .inl (kI, 8, .inl q_notedAddress)), (ra 26, .inl (kZ, 64, .inl g50_15))] H → va_D A [(m0, .inr (11, oX11 ra y50_0)), (ra 2, .inl (kI, 8, .inl q_told)), (ra 3, .inl (kI, 24, .inl q_kind)), (ra 4, .inl (kI, 24, .inl q_salt)), (ra 6, .inl (kI, 24, .inl q_mute)), (ra 7, .inl (kI, 24, .inl q_late)), (ra 8, .inl (kI, 40, .inl q_from)), (ra 9, .inl (kI, 40, .inl q_to)), (ra 10, .inl (kI, 6, .inl q_goal)), (ra 11, .inl (kI, 1019, .inl g50_9)), (ra 14, .inl (kI, 12, .inl q_reach)), (ra 22, .inl (kI, 8, .inl q_notedPort)), (ra 23, .inl (kI, 8, .inl q_notedGoal)), (ra 24, .inl (kI, 8, .inl q_notedHop)), (ra 25, .inl (kI, 8, .inl q_notedAddress)), (ra 26, .inl (kZ, 64, .inl g50_15))] → va_S A s.heap H locs → lv_has ls 8 [(0, .ref m0), (1, .int p0), (2, .int p1), (3, .int p2), (4, .int v50_loc4), (5, .int v50_loc5), (6, .int v50_loc6)] → W p l e (headSpec wsX11_look rm_s11_look).room s m args0 below meth c H locs (0) (0) (MQ below (va_Qi (fun (r : Int32) (_ : Unit) => iv (-1) 2147483647 r) (fun _ t => ∃ (x0' : Nat → Int32) (q_now' : Nat → Int32) (q_fitting' : Nat → Int32), fI lX11 hX11 x0' ∧ fI lNow hNow q_now' ∧ va_P (dC, dI) vwCl [(m0, .inr (11, oX11 ra x0')), (ra 2, .inl (kI, 8, .inl q_told)), (ra 3, .inl (kI, 24, .inl q_kind)), (ra 4, .inl (kI, 24, .inl q_salt)), (ra 6, .inl (kI, 24, .inl q_mute)), (ra 7, .inl (kI, 24, .inl q_late)), (ra 8, .inl (kI, 40, .inl q_from)), (ra 9, .inl (kI, 40, .inl q_to)), (ra 10, .inl (kI, 6, .inl q_goal)), (ra 11, .inl (kI, 1019, .inl q_now')), (ra 14, .inl (kI, 12, .inl q_reach)), (ra 22, .inl (kI, 8, .inl q_notedPort)), (ra 23, .inl (kI, 8, .inl q_notedGoal)), (ra 24, .inl (kI, 8, .inl q_notedHop)), (ra 25, .inl (kI, 8, .inl q_notedAddress)), (ra 26, .inl (kZ, 64, .inl q_fitting'))] t.heap ∧ va_D A [(m0, .inr (11, oX11 ra x0')), (ra 2, .inl (kI, 8, .inl q_told)), (ra 3, .inl (kI, 24, .inl q_kind)), (ra 4, .inl (kI, 24, .inl q_salt)), (ra 6, .inl (kI, 24, .inl q_mute)), (ra 7, .inl (kI, 24, .inl q_late)), (ra 8, .inl (kI, 40, .inl q_from)), (ra 9, .inl (kI, 40, .inl q_to)), (ra 10, .inl (kI, 6, .inl q_goal)), (ra 11, .inl (kI, 1019, .inl q_now')), (ra 14, .inl (kI, 12, .inl q_reach)), (ra 22, .inl (kI, 8, .inl q_notedPort)), (ra 23, .inl (kI, 8, .inl q_notedGoal)), (ra 24, .inl (kI, 8, .inl q_notedHop)), (ra 25, .inl (kI, 8, .inl q_notedAddress)), (ra 26, .inl (kZ, 64, .inl q_fitting'))]) A) args0 s 0 0 A) (F0 m 50 ls []) := by
    intro n
    induction n with
    | zero => intro y50_0 g50_9 g50_15 v50_loc4 v50_loc5 v50_loc6 H locs ls hm50; exact absurd hm50 (Nat.not_lt_zero _)
    | succ n ih50 =>
      intro y50_0 g50_9 g50_15 v50_loc4 v50_loc5 v50_loc6 H locs ls hm50 hI50_0 hI50_9 h50_3 h50_4 h50_5 h50_6 h50_7 h50_8 hP hD hS hl
      have hJ85 : ∀ (y85_0 : Nat → Int32) (g85_9 : Nat → Int32) (v85_loc4 : Int32) (v85_loc5 : Int32) (v85_loc7 : Int32) (H : Heap) (locs : List Loc) (ls : Array Slot), fI lX11 hX11 y85_0 → fI lNow hNow g85_9 → iv (-1) 31 v85_loc4 → iv 0 2147483647 v85_loc5 → iv 0 31 v50_loc6 → iv 0 63 v85_loc7 → va_P (dC, dI) vwCl [(m0, .inr (11, oX11 ra y85_0)), (ra 2, .inl (kI, 8, .inl q_told)), (ra 3, .inl (kI, 24, .inl q_kind)), (ra 4, .inl (kI, 24, .inl q_salt)), (ra 6, .inl (kI, 24, .inl q_mute)), (ra 7, .inl (kI, 24, .inl q_late)), (ra 8, .inl (kI, 40, .inl q_from)), (ra 9, .inl (kI, 40, .inl q_to)), (ra 10, .inl (kI, 6, .inl q_goal)), (ra 11, .inl (kI, 1019, .inl g85_9)), (ra 14, .inl (kI, 12, .inl q_reach)), (ra 22, .inl (kI, 8, .inl q_notedPort)), (ra 23, .inl (kI, 8, .inl q_notedGoal)), (ra 24, .inl (kI, 8, .inl q_notedHop)), (ra 25, .inl (kI, 8, .inl q_notedAddress)), (ra 26, .inl (kZ, 64, .inl g50_15))] H → va_D A [(m0, .inr (11, oX11 ra y85_0)), (ra 2, .inl (kI, 8, .inl q_told)), (ra 3, .inl (kI, 24, .inl q_kind)), (ra 4, .inl (kI, 24, .inl q_salt)), (ra 6, .inl (kI, 24, .inl q_mute)), (ra 7, .inl (kI, 24, .inl q_late)), (ra 8, .inl (kI, 40, .inl q_from)), (ra 9, .inl (kI, 40, .inl q_to)), (ra 10, .inl (kI, 6, .inl q_goal)), (ra 11, .inl (kI, 1019, .inl g85_9)), (ra 14, .inl (kI, 12, .inl q_reach)), (ra 22, .inl (kI, 8, .inl q_notedPort)), (ra 23, .inl (kI, 8, .inl q_notedGoal)), (ra 24, .inl (kI, 8, .inl q_notedHop)), (ra 25, .inl (kI, 8, .inl q_notedAddress)), (ra 26, .inl (kZ, 64, .inl g50_15))] → va_S A s.heap H locs → lv_has ls 8 [(0, .ref m0), (1, .int p0), (2, .int p1), (3, .int p2), (4, .int v85_loc4), (5, .int v85_loc5), (6, .int v50_loc6), (7, .int v85_loc7)] → W p l e (headSpec wsX11_look rm_s11_look).room s m args0 below meth c H locs (0) (0) (MQ below (va_Qi (fun (r : Int32) (_ : Unit) => iv (-1) 2147483647 r) (fun _ t => ∃ (x0' : Nat → Int32) (q_now' : Nat → Int32) (q_fitting' : Nat → Int32), fI lX11 hX11 x0' ∧ fI lNow hNow q_now' ∧ va_P (dC, dI) vwCl [(m0, .inr (11, oX11 ra x0')), (ra 2, .inl (kI, 8, .inl q_told)), (ra 3, .inl (kI, 24, .inl q_kind)), (ra 4, .inl (kI, 24, .inl q_salt)), (ra 6, .inl (kI, 24, .inl q_mute)), (ra 7, .inl (kI, 24, .inl q_late)), (ra 8, .inl (kI, 40, .inl q_from)), (ra 9, .inl (kI, 40, .inl q_to)), (ra 10, .inl (kI, 6, .inl q_goal)), (ra 11, .inl (kI, 1019, .inl q_now')), (ra 14, .inl (kI, 12, .inl q_reach)), (ra 22, .inl (kI, 8, .inl q_notedPort)), (ra 23, .inl (kI, 8, .inl q_notedGoal)), (ra 24, .inl (kI, 8, .inl q_notedHop)), (ra 25, .inl (kI, 8, .inl q_notedAddress)), (ra 26, .inl (kZ, 64, .inl q_fitting'))] t.heap ∧ va_D A [(m0, .inr (11, oX11 ra x0')), (ra 2, .inl (kI, 8, .inl q_told)), (ra 3, .inl (kI, 24, .inl q_kind)), (ra 4, .inl (kI, 24, .inl q_salt)), (ra 6, .inl (kI, 24, .inl q_mute)), (ra 7, .inl (kI, 24, .inl q_late)), (ra 8, .inl (kI, 40, .inl q_from)), (ra 9, .inl (kI, 40, .inl q_to)), (ra 10, .inl (kI, 6, .inl q_goal)), (ra 11, .inl (kI, 1019, .inl q_now')), (ra 14, .inl (kI, 12, .inl q_reach)), (ra 22, .inl (kI, 8, .inl q_notedPort)), (ra 23, .inl (kI, 8, .inl q_notedGoal)), (ra 24, .inl (kI, 8, .inl q_notedHop)), (ra 25, .inl (kI, 8, .inl q_notedAddress)), (ra 26, .inl (kZ, 64, .inl q_fitting'))]) A) args0 s 0 0 A) (F0 m 85 ls []) := by
        intro y85_0 g85_9 v85_loc4 v85_loc5 v85_loc7 H locs ls hI85_0 hI85_9 h85_3 h85_4 h85_5 h85_6 hP hD hS hl
        refine lv_iinc (v := v50_loc6 + Int32.ofInt 1) (lv' := [(6, .int (v50_loc6 + Int32.ofInt 1)), (0, .ref m0), (1, .int p0), (2, .int p1), (3, .int p2), (4, .int v85_loc4), (5, .int v85_loc5), (7, .int v85_loc7)]) hx hb dX11_look_85 hl (k := 6) rfl (rfl) (by decide) rfl (fun ls hl => ?_)
        have b6 : iv 1 32 (v50_loc6 + Int32.ofInt 1) := iv_add h85_5 (iv_k (by decide) (by decide) : iv 1 1 (Int32.ofInt 1)) (by decide) (by decide) (by decide) (by decide)
        refine lv_goto (tgt := 50) hx hb dX11_look_88 (by decide) ?_
        exact ih50 y85_0 g85_9 g50_15 v85_loc4 v85_loc5 (v50_loc6 + Int32.ofInt 1) _ _ _ (ms_up (c := 1) (d := 0) h85_5 hm50 (by decide) (iv_inc 1 h85_5 (by decide) (by decide) (by decide) (by decide)) (by decide) rfl) (hI85_0) (hI85_9) (h50_3) (h50_4) (h50_5) (h85_3) (h85_4) ((iv_w b6 (by decide) (by decide))) (hP.sub [0, 1, 2, 3, 4, 5, 6, 7, 8, 9, 10, 11, 12, 13, 14, 15] rfl) (hD.sub [0, 1, 2, 3, 4, 5, 6, 7, 8, 9, 10, 11, 12, 13, 14, 15] (by decide +kernel) rfl) hS (lv_sub hl [1, 2, 3, 4, 5, 6, 0] rfl)
      refine lv_iload hx hb dX11_look_50 (lv_at hl 6 rfl) ?_
      refine lv_bipush (v := 32) hx hb dX11_look_52 (by decide) ?_
      refine lv_icmp_ge (tgt := 91) hx hb dX11_look_54 (by decide) (fun c7 => ?_) (fun c7 => ?_)
      · have b8 : iv 32 32 v50_loc6 := iv_leR c7 (iv_k (by decide) (by decide) : iv 32 32 32) h50_8 (by decide) (by decide)
        refine lv_iload_n hx hb dX11_look_91 rfl (lv_at hl 3 rfl) ?_
        refine lv_if_ne (tgt := 100) hx hb dX11_look_92 (by decide) (fun c9 => ?_) (fun c9 => ?_)
        · have b10 : iv 1 1 p2 := iv_neLo c9 h50_5 (iv_k (by decide) (by decide) : iv 0 0 0) (by decide) (by decide)
          refine lv_iload hx hb dX11_look_100 (lv_at hl 5 rfl) ?_
          have hP9 := hP.sub (ws' := [(m0, .inr (11, oX11 ra y50_0)), (ra 2, .inl (kI, 8, .inl q_told)), (ra 3, .inl (kI, 24, .inl q_kind)), (ra 4, .inl (kI, 24, .inl q_salt)), (ra 6, .inl (kI, 24, .inl q_mute)), (ra 7, .inl (kI, 24, .inl q_late)), (ra 8, .inl (kI, 40, .inl q_from)), (ra 9, .inl (kI, 40, .inl q_to)), (ra 10, .inl (kI, 6, .inl q_goal)), (ra 11, .inl (kI, 1019, .inl g50_9)), (ra 14, .inl (kI, 12, .inl q_reach)), (ra 22, .inl (kI, 8, .inl q_notedPort)), (ra 23, .inl (kI, 8, .inl q_notedGoal)), (ra 24, .inl (kI, 8, .inl q_notedHop)), (ra 25, .inl (kI, 8, .inl q_notedAddress)), (ra 26, .inl (kZ, 64, .inl g50_15))]) [0, 1, 2, 3, 4, 5, 6, 7, 8, 9, 10, 11, 12, 13, 14, 15] rfl
          have hD9 := hD.sub (ws' := [(m0, .inr (11, oX11 ra y50_0)), (ra 2, .inl (kI, 8, .inl q_told)), (ra 3, .inl (kI, 24, .inl q_kind)), (ra 4, .inl (kI, 24, .inl q_salt)), (ra 6, .inl (kI, 24, .inl q_mute)), (ra 7, .inl (kI, 24, .inl q_late)), (ra 8, .inl (kI, 40, .inl q_from)), (ra 9, .inl (kI, 40, .inl q_to)), (ra 10, .inl (kI, 6, .inl q_goal)), (ra 11, .inl (kI, 1019, .inl g50_9)), (ra 14, .inl (kI, 12, .inl q_reach)), (ra 22, .inl (kI, 8, .inl q_notedPort)), (ra 23, .inl (kI, 8, .inl q_notedGoal)), (ra 24, .inl (kI, 8, .inl q_notedHop)), (ra 25, .inl (kI, 8, .inl q_notedAddress)), (ra 26, .inl (kZ, 64, .inl g50_15))]) [0, 1, 2, 3, 4, 5, 6, 7, 8, 9, 10, 11, 12, 13, 14, 15] (by decide +kernel) rfl
          exact W.iret (v := v50_loc5) hx hb hr (fun t ht hW => ⟨⟨v50_loc5, (), rfl, (iv_w h50_7 (by decide) (by decide)), y50_0, g50_9, g50_15, hI50_0, hI50_9, by rw [ht]; exact hP9, hD9⟩, hS.F ht⟩) hS.2.2 dX11_look_102
        · have b11 : iv 0 0 p2 := iv_eqL c9 (iv_k (by decide) (by decide) : iv 0 0 0)
          refine lv_iload hx hb dX11_look_95 (lv_at hl 4 rfl) ?_
          refine lv_goto (tgt := 102) hx hb dX11_look_97 (by decide) ?_
          have hP9 := hP.sub (ws' := [(m0, .inr (11, oX11 ra y50_0)), (ra 2, .inl (kI, 8, .inl q_told)), (ra 3, .inl (kI, 24, .inl q_kind)), (ra 4, .inl (kI, 24, .inl q_salt)), (ra 6, .inl (kI, 24, .inl q_mute)), (ra 7, .inl (kI, 24, .inl q_late)), (ra 8, .inl (kI, 40, .inl q_from)), (ra 9, .inl (kI, 40, .inl q_to)), (ra 10, .inl (kI, 6, .inl q_goal)), (ra 11, .inl (kI, 1019, .inl g50_9)), (ra 14, .inl (kI, 12, .inl q_reach)), (ra 22, .inl (kI, 8, .inl q_notedPort)), (ra 23, .inl (kI, 8, .inl q_notedGoal)), (ra 24, .inl (kI, 8, .inl q_notedHop)), (ra 25, .inl (kI, 8, .inl q_notedAddress)), (ra 26, .inl (kZ, 64, .inl g50_15))]) [0, 1, 2, 3, 4, 5, 6, 7, 8, 9, 10, 11, 12, 13, 14, 15] rfl
          have hD9 := hD.sub (ws' := [(m0, .inr (11, oX11 ra y50_0)), (ra 2, .inl (kI, 8, .inl q_told)), (ra 3, .inl (kI, 24, .inl q_kind)), (ra 4, .inl (kI, 24, .inl q_salt)), (ra 6, .inl (kI, 24, .inl q_mute)), (ra 7, .inl (kI, 24, .inl q_late)), (ra 8, .inl (kI, 40, .inl q_from)), (ra 9, .inl (kI, 40, .inl q_to)), (ra 10, .inl (kI, 6, .inl q_goal)), (ra 11, .inl (kI, 1019, .inl g50_9)), (ra 14, .inl (kI, 12, .inl q_reach)), (ra 22, .inl (kI, 8, .inl q_notedPort)), (ra 23, .inl (kI, 8, .inl q_notedGoal)), (ra 24, .inl (kI, 8, .inl q_notedHop)), (ra 25, .inl (kI, 8, .inl q_notedAddress)), (ra 26, .inl (kZ, 64, .inl g50_15))]) [0, 1, 2, 3, 4, 5, 6, 7, 8, 9, 10, 11, 12, 13, 14, 15] (by decide +kernel) rfl
          exact W.iret (v := v50_loc4) hx hb hr (fun t ht hW => ⟨⟨v50_loc4, (), rfl, (iv_w h50_6 (by decide) (by decide)), y50_0, g50_9, g50_15, hI50_0, hI50_9, by rw [ht]; exact hP9, hD9⟩, hS.F ht⟩) hS.2.2 dX11_look_102
      · have b12 : iv 0 31 v50_loc6 := iv_ltL (Int32.not_le.mp c7) h50_8 (iv_k (by decide) (by decide) : iv 32 32 32) (by decide) (by decide)
        refine lv_aload_n hx hb dX11_look_57 rfl (lv_at hl 0 rfl) ?_
        refine lv_iload_n hx hb dX11_look_58 rfl (lv_at hl 1 rfl) ?_
        refine lv_iload hx hb dX11_look_59 (lv_at hl 6 rfl) ?_
        refine lv_iload_n hx hb dX11_look_61 rfl (lv_at hl 2 rfl) ?_
        have hPc := hP.sub (ws' := [(m0, .inr (11, oX11 ra y50_0)), (ra 2, .inl (kI, 8, .inl q_told)), (ra 3, .inl (kI, 24, .inl q_kind)), (ra 4, .inl (kI, 24, .inl q_salt)), (ra 8, .inl (kI, 40, .inl q_from)), (ra 9, .inl (kI, 40, .inl q_to)), (ra 10, .inl (kI, 6, .inl q_goal)), (ra 11, .inl (kI, 1019, .inl g50_9)), (ra 14, .inl (kI, 12, .inl q_reach)), (ra 26, .inl (kZ, 64, .inl g50_15))]) [0, 1, 2, 3, 6, 7, 8, 9, 10, 15] rfl
        have hDc := hD.sub (ws' := [(m0, .inr (11, oX11 ra y50_0)), (ra 2, .inl (kI, 8, .inl q_told)), (ra 3, .inl (kI, 24, .inl q_kind)), (ra 4, .inl (kI, 24, .inl q_salt)), (ra 8, .inl (kI, 40, .inl q_from)), (ra 9, .inl (kI, 40, .inl q_to)), (ra 10, .inl (kI, 6, .inl q_goal)), (ra 11, .inl (kI, 1019, .inl g50_9)), (ra 14, .inl (kI, 12, .inl q_reach)), (ra 26, .inl (kZ, 64, .inl g50_15))]) [0, 1, 2, 3, 6, 7, 8, 9, 10, 15] (by decide +kernel) rfl
        have hFc := va_free (wc := [(m0, .inr (11, oX11 ra y50_0)), (ra 2, .inl (kI, 8, .inl q_told)), (ra 3, .inl (kI, 24, .inl q_kind)), (ra 4, .inl (kI, 24, .inl q_salt)), (ra 8, .inl (kI, 40, .inl q_from)), (ra 9, .inl (kI, 40, .inl q_to)), (ra 10, .inl (kI, 6, .inl q_goal)), (ra 11, .inl (kI, 1019, .inl g50_9)), (ra 14, .inl (kI, 12, .inl q_reach)), (ra 26, .inl (kZ, 64, .inl g50_15))]) hD hS hA [0, 1, 2, 3, 6, 7, 8, 9, 10, 15] rfl
        refine va_calli (va_runV (As := [.int p0, .int v50_loc6, .int p1]) (rest := []) ⟨hx, hb, hml, hown, hts⟩ (s11_unlike l dC dI kB kI kJ kZ kC kS H.size m0 ra y50_0 q_told q_kind q_salt q_from q_to q_goal g50_9 q_reach g50_15 p0 v50_loc6 p1 (hI50_0) (hq_told) (hq_salt) (hq_from) (hq_to) (hq_goal) (hI50_9) (h50_3) (b12) (h50_4) (hLT)) (cwV 3 hts gX11_look_X11_unlike rfl rfl rfl (by decide +kernel) ⟨Nat.le_of_ble_eq_true rfl, Nat.le_of_ble_eq_true rfl⟩) ⟨fun a U g mk q => by obtain ⟨q0, q1, qP, qE, qD⟩ := q; exact ⟨q0, q1, qP, kE_call qE, qD⟩, va_recv hK hP (ci := 11) (q0 := 0) rfl rfl, fun U hU hW => ⟨rfl, by rw [hU], by rw [hU]; exact hPc, kE_warm hW hE, hDc.weaken (fun _ _ _ _ => trivial)⟩⟩ rfl rfl hl.1 rfl (lv_room (Nat.le_of_ble_eq_true rfl)) dX11_look_62 ⟨Nat.le_of_ble_eq_true rfl, Nat.le_of_ble_eq_true rfl⟩) hS (fun q _ h => hFc q h) hFc (fun r13 u t H1 locs ht hvm w14 hB hz1 hk1 hS => ?_)
        obtain ⟨y15, f16, hq17, hq18, hP1, hD1⟩ := hB
        rw [ht] at hP1
        try dsimp only at w14
        obtain ⟨hP, hD⟩ := va_join (wr := [(ra 6, .inl (kI, 24, .inl q_mute)), (ra 7, .inl (kI, 24, .inl q_late)), (ra 22, .inl (kI, 8, .inl q_notedPort)), (ra 23, .inl (kI, 8, .inl q_notedGoal)), (ra 24, .inl (kI, 8, .inl q_notedHop)), (ra 25, .inl (kI, 8, .inl q_notedAddress))]) (w1 := [(m0, .inr (11, oX11 ra y15)), (ra 2, .inl (kI, 8, .inl q_told)), (ra 3, .inl (kI, 24, .inl q_kind)), (ra 4, .inl (kI, 24, .inl q_salt)), (ra 8, .inl (kI, 40, .inl q_from)), (ra 9, .inl (kI, 40, .inl q_to)), (ra 10, .inl (kI, 6, .inl q_goal)), (ra 11, .inl (kI, 1019, .inl f16)), (ra 14, .inl (kI, 12, .inl q_reach)), (ra 26, .inl (kZ, 64, .inl g50_15))]) hP hD [0, 1, 2, 3, 6, 7, 8, 9, 10, 15] [4, 5, 11, 12, 13, 14] rfl rfl (by decide +kernel) (by decide +kernel) hk1 hFc hP1 hD1
        generalize H1 = H at hP hS ⊢
        have hP : va_P (dC, dI) vwCl [(ra 6, .inl (kI, 24, .inl q_mute)), (ra 7, .inl (kI, 24, .inl q_late)), (ra 22, .inl (kI, 8, .inl q_notedPort)), (ra 23, .inl (kI, 8, .inl q_notedGoal)), (ra 24, .inl (kI, 8, .inl q_notedHop)), (ra 25, .inl (kI, 8, .inl q_notedAddress)), (m0, .inr (11, oX11 ra y15)), (ra 2, .inl (kI, 8, .inl q_told)), (ra 3, .inl (kI, 24, .inl q_kind)), (ra 4, .inl (kI, 24, .inl q_salt)), (ra 8, .inl (kI, 40, .inl q_from)), (ra 9, .inl (kI, 40, .inl q_to)), (ra 10, .inl (kI, 6, .inl q_goal)), (ra 11, .inl (kI, 1019, .inl f16)), (ra 14, .inl (kI, 12, .inl q_reach)), (ra 26, .inl (kZ, 64, .inl g50_15))] H := hP
        have hD : va_D A [(ra 6, .inl (kI, 24, .inl q_mute)), (ra 7, .inl (kI, 24, .inl q_late)), (ra 22, .inl (kI, 8, .inl q_notedPort)), (ra 23, .inl (kI, 8, .inl q_notedGoal)), (ra 24, .inl (kI, 8, .inl q_notedHop)), (ra 25, .inl (kI, 8, .inl q_notedAddress)), (m0, .inr (11, oX11 ra y15)), (ra 2, .inl (kI, 8, .inl q_told)), (ra 3, .inl (kI, 24, .inl q_kind)), (ra 4, .inl (kI, 24, .inl q_salt)), (ra 8, .inl (kI, 40, .inl q_from)), (ra 9, .inl (kI, 40, .inl q_to)), (ra 10, .inl (kI, 6, .inl q_goal)), (ra 11, .inl (kI, 1019, .inl f16)), (ra 14, .inl (kI, 12, .inl q_reach)), (ra 26, .inl (kZ, 64, .inl g50_15))] := hD
        refine W.widen (k := 0) (n := 0) (Nat.le_of_ble_eq_true rfl) (Nat.le_of_ble_eq_true rfl) ?_
        refine lv_istore (lv' := [(7, .int r13), (0, .ref m0), (1, .int p0), (2, .int p1), (3, .int p2), (4, .int v50_loc4), (5, .int v50_loc5), (6, .int v50_loc6)]) hx hb dX11_look_65 hl (by decide) rfl (fun ls hl => ?_)
        refine lv_iload hx hb dX11_look_67 (lv_at hl 0 rfl) ?_
        refine lv_iload hx hb dX11_look_69 (lv_at hl 6 rfl) ?_
        refine lv_icmp_gt (tgt := 77) hx hb dX11_look_71 (by decide) (fun c19 => ?_) (fun c19 => ?_)
        · have b20 : iv 0 62 v50_loc5 := iv_ltL c19 h50_7 w14 (by decide) (by decide)
          have b21 : iv 1 63 r13 := iv_ltR c19 h50_7 w14 (by decide) (by decide)
          refine lv_iload hx hb dX11_look_77 (lv_at hl 7 rfl) ?_
          refine lv_istore (lv' := [(4, .int v50_loc6), (7, .int r13), (0, .ref m0), (1, .int p0), (2, .int p1), (3, .int p2), (5, .int v50_loc5), (6, .int v50_loc6)]) hx hb dX11_look_79 hl (by decide) rfl (fun ls hl => ?_)
          refine lv_iload hx hb dX11_look_81 (lv_at hl 1 rfl) ?_
          refine lv_istore (lv' := [(5, .int r13), (4, .int v50_loc6), (7, .int r13), (0, .ref m0), (1, .int p0), (2, .int p1), (3, .int p2), (6, .int v50_loc6)]) hx hb dX11_look_83 hl (by decide) rfl (fun ls hl => ?_)
          exact hJ85 y15 f16 v50_loc6 r13 r13 _ _ _ (hq17) (hq18) ((iv_w b12 (by decide) (by decide))) ((iv_w b21 (by decide) (by decide))) (b12) ((iv_w b21 (by decide) (by decide))) (hP.sub [6, 7, 8, 9, 0, 1, 10, 11, 12, 13, 14, 2, 3, 4, 5, 15] rfl) (hD.sub [6, 7, 8, 9, 0, 1, 10, 11, 12, 13, 14, 2, 3, 4, 5, 15] (by decide +kernel) rfl) hS (lv_sub hl [3, 4, 5, 6, 1, 0, 7, 2] rfl)
        · refine lv_goto (tgt := 85) hx hb dX11_look_74 (by decide) ?_
          exact hJ85 y15 f16 v50_loc4 v50_loc5 r13 _ _ _ (hq17) (hq18) (h50_6) (h50_7) (b12) (w14) (hP.sub [6, 7, 8, 9, 0, 1, 10, 11, 12, 13, 14, 2, 3, 4, 5, 15] rfl) (hD.sub [6, 7, 8, 9, 0, 1, 10, 11, 12, 13, 14, 2, 3, 4, 5, 15] (by decide +kernel) rfl) hS (lv_sub hl [1, 2, 3, 4, 5, 6, 7, 0] rfl)
  refine lv_aload_n hx hb dX11_look_0 rfl (lv_at hl 0 rfl) ?_
  refine lv_iconst (v := 0) hx hb dX11_look_1 (by decide) ?_
  refine va_put (D := (dC, dI)) (ci := 11) (v := .int 0) (ty := .int) (C := RX11) (T := TX11) (N := 61) hx hb hts hin11 tyX11 tyX11_ok nmX11 hown hK hP hD hS 0 rfl rfl 2 (by decide) hw_0 (fun _ h9 => h9) rfl (by decide +kernel) rfl rfl (Nat.le_of_ble_eq_true rfl) dX11_look_2 (fun H locs hP hD hS => ?_)
  have hP : va_P (dC, dI) vwCl [(m0, .inr (11, oX11 ra (upd x0 0 0))), (ra 2, .inl (kI, 8, .inl q_told)), (ra 3, .inl (kI, 24, .inl q_kind)), (ra 4, .inl (kI, 24, .inl q_salt)), (ra 6, .inl (kI, 24, .inl q_mute)), (ra 7, .inl (kI, 24, .inl q_late)), (ra 8, .inl (kI, 40, .inl q_from)), (ra 9, .inl (kI, 40, .inl q_to)), (ra 10, .inl (kI, 6, .inl q_goal)), (ra 11, .inl (kI, 1019, .inl q_now)), (ra 14, .inl (kI, 12, .inl q_reach)), (ra 22, .inl (kI, 8, .inl q_notedPort)), (ra 23, .inl (kI, 8, .inl q_notedGoal)), (ra 24, .inl (kI, 8, .inl q_notedHop)), (ra 25, .inl (kI, 8, .inl q_notedAddress)), (ra 26, .inl (kZ, 64, .inl q_fitting))] H := hP
  have hD : va_D A [(m0, .inr (11, oX11 ra (upd x0 0 0))), (ra 2, .inl (kI, 8, .inl q_told)), (ra 3, .inl (kI, 24, .inl q_kind)), (ra 4, .inl (kI, 24, .inl q_salt)), (ra 6, .inl (kI, 24, .inl q_mute)), (ra 7, .inl (kI, 24, .inl q_late)), (ra 8, .inl (kI, 40, .inl q_from)), (ra 9, .inl (kI, 40, .inl q_to)), (ra 10, .inl (kI, 6, .inl q_goal)), (ra 11, .inl (kI, 1019, .inl q_now)), (ra 14, .inl (kI, 12, .inl q_reach)), (ra 22, .inl (kI, 8, .inl q_notedPort)), (ra 23, .inl (kI, 8, .inl q_notedGoal)), (ra 24, .inl (kI, 8, .inl q_notedHop)), (ra 25, .inl (kI, 8, .inl q_notedAddress)), (ra 26, .inl (kZ, 64, .inl q_fitting))] := hD
  refine lv_aload_n hx hb dX11_look_5 rfl (lv_at hl 0 rfl) ?_
  refine lv_iload_n hx hb dX11_look_6 rfl (lv_at hl 1 rfl) ?_
  have hPc := hP.sub (ws' := [(m0, .inr (11, oX11 ra (upd x0 0 0))), (ra 2, .inl (kI, 8, .inl q_told))]) [0, 1] rfl
  have hDc := hD.sub (ws' := [(m0, .inr (11, oX11 ra (upd x0 0 0))), (ra 2, .inl (kI, 8, .inl q_told))]) [0, 1] (by decide +kernel) rfl
  have hFc := va_free (wc := [(m0, .inr (11, oX11 ra (upd x0 0 0))), (ra 2, .inl (kI, 8, .inl q_told))]) hD hS hA [0, 1] rfl
  refine va_calli (va_runV (As := [.int p0]) (rest := []) ⟨hx, hb, hml, hown, hts⟩ (s11_isRouter l dC dI kB kI kJ kZ kC kS H.size m0 ra (upd x0 0 0) q_told p0 ((fI_u hX (k := 0) ((iv_w (iv_k (by decide) (by decide) : iv 0 0 0) (by decide) (by decide))))) (hq_told)) (cwV 1 hts gX11_look_X11_isRouter rfl rfl rfl (by decide +kernel) ⟨Nat.le_of_ble_eq_true rfl, Nat.le_of_ble_eq_true rfl⟩) ⟨fun a U g mk q => by obtain ⟨q0, q1, qP, qE, qD⟩ := q; exact ⟨q0, q1, qP, kE_call qE, qD⟩, va_recv hK hP (ci := 11) (q0 := 0) rfl rfl, fun U hU hW => ⟨rfl, by rw [hU], by rw [hU]; exact hPc, kE_warm hW hE, hDc.weaken (fun _ _ _ _ => trivial)⟩⟩ rfl rfl hl.1 rfl (lv_room (Nat.le_of_ble_eq_true rfl)) dX11_look_7 ⟨Nat.le_of_ble_eq_true rfl, Nat.le_of_ble_eq_true rfl⟩) hS (fun q _ h => hFc q h) hFc (fun r22 u t H1 locs ht hvm w23 hB hz1 hk1 hS => ?_)
  obtain ⟨hP1, hD1⟩ := hB
  rw [ht] at hP1
  try dsimp only at w23
  obtain ⟨hP, hD⟩ := va_join (wr := [(ra 3, .inl (kI, 24, .inl q_kind)), (ra 4, .inl (kI, 24, .inl q_salt)), (ra 6, .inl (kI, 24, .inl q_mute)), (ra 7, .inl (kI, 24, .inl q_late)), (ra 8, .inl (kI, 40, .inl q_from)), (ra 9, .inl (kI, 40, .inl q_to)), (ra 10, .inl (kI, 6, .inl q_goal)), (ra 11, .inl (kI, 1019, .inl q_now)), (ra 14, .inl (kI, 12, .inl q_reach)), (ra 22, .inl (kI, 8, .inl q_notedPort)), (ra 23, .inl (kI, 8, .inl q_notedGoal)), (ra 24, .inl (kI, 8, .inl q_notedHop)), (ra 25, .inl (kI, 8, .inl q_notedAddress)), (ra 26, .inl (kZ, 64, .inl q_fitting))]) (w1 := [(m0, .inr (11, oX11 ra (upd x0 0 0))), (ra 2, .inl (kI, 8, .inl q_told))]) hP hD [0, 1] [2, 3, 4, 5, 6, 7, 8, 9, 10, 11, 12, 13, 14, 15] rfl rfl (by decide +kernel) (by decide +kernel) hk1 hFc hP1 hD1
  generalize H1 = H at hP hS ⊢
  have hP : va_P (dC, dI) vwCl [(ra 3, .inl (kI, 24, .inl q_kind)), (ra 4, .inl (kI, 24, .inl q_salt)), (ra 6, .inl (kI, 24, .inl q_mute)), (ra 7, .inl (kI, 24, .inl q_late)), (ra 8, .inl (kI, 40, .inl q_from)), (ra 9, .inl (kI, 40, .inl q_to)), (ra 10, .inl (kI, 6, .inl q_goal)), (ra 11, .inl (kI, 1019, .inl q_now)), (ra 14, .inl (kI, 12, .inl q_reach)), (ra 22, .inl (kI, 8, .inl q_notedPort)), (ra 23, .inl (kI, 8, .inl q_notedGoal)), (ra 24, .inl (kI, 8, .inl q_notedHop)), (ra 25, .inl (kI, 8, .inl q_notedAddress)), (ra 26, .inl (kZ, 64, .inl q_fitting)), (m0, .inr (11, oX11 ra (upd x0 0 0))), (ra 2, .inl (kI, 8, .inl q_told))] H := hP
  have hD : va_D A [(ra 3, .inl (kI, 24, .inl q_kind)), (ra 4, .inl (kI, 24, .inl q_salt)), (ra 6, .inl (kI, 24, .inl q_mute)), (ra 7, .inl (kI, 24, .inl q_late)), (ra 8, .inl (kI, 40, .inl q_from)), (ra 9, .inl (kI, 40, .inl q_to)), (ra 10, .inl (kI, 6, .inl q_goal)), (ra 11, .inl (kI, 1019, .inl q_now)), (ra 14, .inl (kI, 12, .inl q_reach)), (ra 22, .inl (kI, 8, .inl q_notedPort)), (ra 23, .inl (kI, 8, .inl q_notedGoal)), (ra 24, .inl (kI, 8, .inl q_notedHop)), (ra 25, .inl (kI, 8, .inl q_notedAddress)), (ra 26, .inl (kZ, 64, .inl q_fitting)), (m0, .inr (11, oX11 ra (upd x0 0 0))), (ra 2, .inl (kI, 8, .inl q_told))] := hD
  refine W.widen (k := 0) (n := 0) (Nat.le_of_ble_eq_true rfl) (Nat.le_of_ble_eq_true rfl) ?_
  refine lv_if_eq (tgt := 30) hx hb dX11_look_10 (by decide) (fun c24 => ?_) (fun c24 => ?_)
  · have b25 : iv 0 0 r22 := iv_eqL c24 (iv_k (by decide) (by decide) : iv 0 0 0)
    exact hJ30 (upd x0 0 0) _ _ _ ((fI_u hX (k := 0) ((iv_w (iv_k (by decide) (by decide) : iv 0 0 0) (by decide) (by decide))))) ((iv_k (by decide) (by decide) : iv 0 0 0)) (hP.sub [14, 15, 0, 1, 2, 3, 4, 5, 6, 7, 8, 9, 10, 11, 12, 13] rfl) (hD.sub [14, 15, 0, 1, 2, 3, 4, 5, 6, 7, 8, 9, 10, 11, 12, 13] (by decide +kernel) rfl) hS (lv_sub hl [0, 1, 2, 3] rfl)
  · have b26 : iv 1 1 r22 := iv_neLo c24 w23.1 (iv_k (by decide) (by decide) : iv 0 0 0) (by decide) (by decide)
    have b27 : iv 0 11 p0 := (w23.2).resolve_left (iv_ne b26 (iv_k (by decide) (by decide) : iv 0 0 0) (by decide))
    refine lv_aload_n hx hb dX11_look_13 rfl (lv_at hl 0 rfl) ?_
    refine lv_iload_n hx hb dX11_look_14 rfl (lv_at hl 2 rfl) ?_
    have hPc := hP.sub (ws' := [(m0, .inr (11, oX11 ra (upd x0 0 0))), (ra 2, .inl (kI, 8, .inl q_told))]) [14, 15] rfl
    have hDc := hD.sub (ws' := [(m0, .inr (11, oX11 ra (upd x0 0 0))), (ra 2, .inl (kI, 8, .inl q_told))]) [14, 15] (by decide +kernel) rfl
    have hFc := va_free (wc := [(m0, .inr (11, oX11 ra (upd x0 0 0))), (ra 2, .inl (kI, 8, .inl q_told))]) hD hS hA [14, 15] rfl
    refine va_calli (va_runV (As := [.int p1]) (rest := []) ⟨hx, hb, hml, hown, hts⟩ (s11_isGoal l dC dI kB kI kJ kZ kC kS H.size m0 ra (upd x0 0 0) q_told p1 ((fI_u hX (k := 0) ((iv_w (iv_k (by decide) (by decide) : iv 0 0 0) (by decide) (by decide))))) (hq_told)) (cwV 1 hts gX11_look_X11_isGoal rfl rfl rfl (by decide +kernel) ⟨Nat.le_of_ble_eq_true rfl, Nat.le_of_ble_eq_true rfl⟩) ⟨fun a U g mk q => by obtain ⟨q0, q1, qP, qE, qD⟩ := q; exact ⟨q0, q1, qP, kE_call qE, qD⟩, va_recv hK hP (ci := 11) (q0 := 14) rfl rfl, fun U hU hW => ⟨rfl, by rw [hU], by rw [hU]; exact hPc, kE_warm hW hE, hDc.weaken (fun _ _ _ _ => trivial)⟩⟩ rfl rfl hl.1 rfl (lv_room (Nat.le_of_ble_eq_true rfl)) dX11_look_15 ⟨Nat.le_of_ble_eq_true rfl, Nat.le_of_ble_eq_true rfl⟩) hS (fun q _ h => hFc q h) hFc (fun r28 u t H1 locs ht hvm w29 hB hz1 hk1 hS => ?_)
    obtain ⟨hP1, hD1⟩ := hB
    rw [ht] at hP1
    try dsimp only at w29
    obtain ⟨hP, hD⟩ := va_join (wr := [(ra 3, .inl (kI, 24, .inl q_kind)), (ra 4, .inl (kI, 24, .inl q_salt)), (ra 6, .inl (kI, 24, .inl q_mute)), (ra 7, .inl (kI, 24, .inl q_late)), (ra 8, .inl (kI, 40, .inl q_from)), (ra 9, .inl (kI, 40, .inl q_to)), (ra 10, .inl (kI, 6, .inl q_goal)), (ra 11, .inl (kI, 1019, .inl q_now)), (ra 14, .inl (kI, 12, .inl q_reach)), (ra 22, .inl (kI, 8, .inl q_notedPort)), (ra 23, .inl (kI, 8, .inl q_notedGoal)), (ra 24, .inl (kI, 8, .inl q_notedHop)), (ra 25, .inl (kI, 8, .inl q_notedAddress)), (ra 26, .inl (kZ, 64, .inl q_fitting))]) (w1 := [(m0, .inr (11, oX11 ra (upd x0 0 0))), (ra 2, .inl (kI, 8, .inl q_told))]) hP hD [14, 15] [0, 1, 2, 3, 4, 5, 6, 7, 8, 9, 10, 11, 12, 13] rfl rfl (by decide +kernel) (by decide +kernel) hk1 hFc hP1 hD1
    generalize H1 = H at hP hS ⊢
    have hP : va_P (dC, dI) vwCl [(ra 3, .inl (kI, 24, .inl q_kind)), (ra 4, .inl (kI, 24, .inl q_salt)), (ra 6, .inl (kI, 24, .inl q_mute)), (ra 7, .inl (kI, 24, .inl q_late)), (ra 8, .inl (kI, 40, .inl q_from)), (ra 9, .inl (kI, 40, .inl q_to)), (ra 10, .inl (kI, 6, .inl q_goal)), (ra 11, .inl (kI, 1019, .inl q_now)), (ra 14, .inl (kI, 12, .inl q_reach)), (ra 22, .inl (kI, 8, .inl q_notedPort)), (ra 23, .inl (kI, 8, .inl q_notedGoal)), (ra 24, .inl (kI, 8, .inl q_notedHop)), (ra 25, .inl (kI, 8, .inl q_notedAddress)), (ra 26, .inl (kZ, 64, .inl q_fitting)), (m0, .inr (11, oX11 ra (upd x0 0 0))), (ra 2, .inl (kI, 8, .inl q_told))] H := hP
    have hD : va_D A [(ra 3, .inl (kI, 24, .inl q_kind)), (ra 4, .inl (kI, 24, .inl q_salt)), (ra 6, .inl (kI, 24, .inl q_mute)), (ra 7, .inl (kI, 24, .inl q_late)), (ra 8, .inl (kI, 40, .inl q_from)), (ra 9, .inl (kI, 40, .inl q_to)), (ra 10, .inl (kI, 6, .inl q_goal)), (ra 11, .inl (kI, 1019, .inl q_now)), (ra 14, .inl (kI, 12, .inl q_reach)), (ra 22, .inl (kI, 8, .inl q_notedPort)), (ra 23, .inl (kI, 8, .inl q_notedGoal)), (ra 24, .inl (kI, 8, .inl q_notedHop)), (ra 25, .inl (kI, 8, .inl q_notedAddress)), (ra 26, .inl (kZ, 64, .inl q_fitting)), (m0, .inr (11, oX11 ra (upd x0 0 0))), (ra 2, .inl (kI, 8, .inl q_told))] := hD
    refine W.widen (k := 0) (n := 0) (Nat.le_of_ble_eq_true rfl) (Nat.le_of_ble_eq_true rfl) ?_
    refine lv_if_eq (tgt := 30) hx hb dX11_look_18 (by decide) (fun c30 => ?_) (fun c30 => ?_)
    · have b31 : iv 0 0 r28 := iv_eqL c30 (iv_k (by decide) (by decide) : iv 0 0 0)
      exact hJ30 (upd x0 0 0) _ _ _ ((fI_u hX (k := 0) ((iv_w (iv_k (by decide) (by decide) : iv 0 0 0) (by decide) (by decide))))) ((iv_k (by decide) (by decide) : iv 0 0 0)) (hP.sub [14, 15, 0, 1, 2, 3, 4, 5, 6, 7, 8, 9, 10, 11, 12, 13] rfl) (hD.sub [14, 15, 0, 1, 2, 3, 4, 5, 6, 7, 8, 9, 10, 11, 12, 13] (by decide +kernel) rfl) hS (lv_sub hl [0, 1, 2, 3] rfl)
    · have b32 : iv 1 1 r28 := iv_neLo c30 w29.1 (iv_k (by decide) (by decide) : iv 0 0 0) (by decide) (by decide)
      have b33 : iv 0 2 p1 := (w29.2).resolve_left (iv_ne b32 (iv_k (by decide) (by decide) : iv 0 0 0) (by decide))
      refine lv_iload_n hx hb dX11_look_21 rfl (lv_at hl 3 rfl) ?_
      refine lv_iconst (v := 0) hx hb dX11_look_22 (by decide) ?_
      refine lv_iconst (v := 1) hx hb dX11_look_23 (by decide) ?_
      have hPc := hP.sub (ws' := []) [] rfl
      have hDc := hD.sub (ws' := []) [] (by decide +kernel) rfl
      have hFc := va_free (wc := []) hD hS hA [] rfl
      refine va_calli (va_runS (As := [.int p2, .int 0, .int 1]) (rest := []) ⟨hx, hb, hml, hown, hts⟩ (s11_isIn l dC dI kB kI kJ kZ kC kS H.size p2 0 1) (va_cwS 3 hts gX11_look_X11_isIn rfl rfl rfl (by decide +kernel) ⟨Nat.le_of_ble_eq_true rfl, Nat.le_of_ble_eq_true rfl⟩) ⟨fun a U g mk q => by obtain ⟨q0, q1, qP, qE, qD⟩ := q; exact ⟨q0, q1, qP, kE_call qE, qD⟩, fun U hU hW => ⟨rfl, by rw [hU], by rw [hU]; exact hPc, kE_warm hW hE, hDc.weaken (fun _ _ _ _ => trivial)⟩⟩ rfl rfl hl.1 rfl (lv_room (Nat.le_of_ble_eq_true rfl)) dX11_look_24 ⟨Nat.le_of_ble_eq_true rfl, Nat.le_of_ble_eq_true rfl⟩) hS (fun q _ h => hFc q h) hFc (fun r34 u t H1 locs ht hvm w35 hB hz1 hk1 hS => ?_)
      obtain ⟨hP1, hD1⟩ := hB
      rw [ht] at hP1
      try dsimp only at w35
      obtain ⟨hP, hD⟩ := va_join (wr := [(ra 3, .inl (kI, 24, .inl q_kind)), (ra 4, .inl (kI, 24, .inl q_salt)), (ra 6, .inl (kI, 24, .inl q_mute)), (ra 7, .inl (kI, 24, .inl q_late)), (ra 8, .inl (kI, 40, .inl q_from)), (ra 9, .inl (kI, 40, .inl q_to)), (ra 10, .inl (kI, 6, .inl q_goal)), (ra 11, .inl (kI, 1019, .inl q_now)), (ra 14, .inl (kI, 12, .inl q_reach)), (ra 22, .inl (kI, 8, .inl q_notedPort)), (ra 23, .inl (kI, 8, .inl q_notedGoal)), (ra 24, .inl (kI, 8, .inl q_notedHop)), (ra 25, .inl (kI, 8, .inl q_notedAddress)), (ra 26, .inl (kZ, 64, .inl q_fitting)), (m0, .inr (11, oX11 ra (upd x0 0 0))), (ra 2, .inl (kI, 8, .inl q_told))]) (w1 := []) hP hD [] [0, 1, 2, 3, 4, 5, 6, 7, 8, 9, 10, 11, 12, 13, 14, 15] rfl rfl (by decide +kernel) (by decide +kernel) hk1 hFc hP1 hD1
      generalize H1 = H at hP hS ⊢
      have hP : va_P (dC, dI) vwCl [(ra 3, .inl (kI, 24, .inl q_kind)), (ra 4, .inl (kI, 24, .inl q_salt)), (ra 6, .inl (kI, 24, .inl q_mute)), (ra 7, .inl (kI, 24, .inl q_late)), (ra 8, .inl (kI, 40, .inl q_from)), (ra 9, .inl (kI, 40, .inl q_to)), (ra 10, .inl (kI, 6, .inl q_goal)), (ra 11, .inl (kI, 1019, .inl q_now)), (ra 14, .inl (kI, 12, .inl q_reach)), (ra 22, .inl (kI, 8, .inl q_notedPort)), (ra 23, .inl (kI, 8, .inl q_notedGoal)), (ra 24, .inl (kI, 8, .inl q_notedHop)), (ra 25, .inl (kI, 8, .inl q_notedAddress)), (ra 26, .inl (kZ, 64, .inl q_fitting)), (m0, .inr (11, oX11 ra (upd x0 0 0))), (ra 2, .inl (kI, 8, .inl q_told))] H := hP
      have hD : va_D A [(ra 3, .inl (kI, 24, .inl q_kind)), (ra 4, .inl (kI, 24, .inl q_salt)), (ra 6, .inl (kI, 24, .inl q_mute)), (ra 7, .inl (kI, 24, .inl q_late)), (ra 8, .inl (kI, 40, .inl q_from)), (ra 9, .inl (kI, 40, .inl q_to)), (ra 10, .inl (kI, 6, .inl q_goal)), (ra 11, .inl (kI, 1019, .inl q_now)), (ra 14, .inl (kI, 12, .inl q_reach)), (ra 22, .inl (kI, 8, .inl q_notedPort)), (ra 23, .inl (kI, 8, .inl q_notedGoal)), (ra 24, .inl (kI, 8, .inl q_notedHop)), (ra 25, .inl (kI, 8, .inl q_notedAddress)), (ra 26, .inl (kZ, 64, .inl q_fitting)), (m0, .inr (11, oX11 ra (upd x0 0 0))), (ra 2, .inl (kI, 8, .inl q_told))] := hD
      refine W.widen (k := 0) (n := 0) (Nat.le_of_ble_eq_true rfl) (Nat.le_of_ble_eq_true rfl) ?_
      refine lv_if_ne (tgt := 36) hx hb dX11_look_27 (by decide) (fun c36 => ?_) (fun c36 => ?_)
      · have b37 : iv 1 1 r34 := iv_neLo c36 w35.1 (iv_k (by decide) (by decide) : iv 0 0 0) (by decide) (by decide)
        have hr38 := (w35.2).resolve_left (iv_ne b37 (iv_k (by decide) (by decide) : iv 0 0 0) (by decide))
        have b39 : iv 0 1 p2 := iv_cap (in_iv hr38 (iv_k (by decide) (by decide) : iv 0 0 0) (iv_k (by decide) (by decide) : iv 1 1 1)) (iv_t p2) (by decide) (by decide)
        refine lv_aload_n hx hb dX11_look_36 rfl (lv_at hl 0 rfl) ?_
        refine lv_iload_n hx hb dX11_look_37 rfl (lv_at hl 1 rfl) ?_
        have hPc := hP.sub (ws' := [(m0, .inr (11, oX11 ra (upd x0 0 0))), (ra 2, .inl (kI, 8, .inl q_told)), (ra 3, .inl (kI, 24, .inl q_kind)), (ra 4, .inl (kI, 24, .inl q_salt)), (ra 6, .inl (kI, 24, .inl q_mute)), (ra 7, .inl (kI, 24, .inl q_late)), (ra 8, .inl (kI, 40, .inl q_from)), (ra 9, .inl (kI, 40, .inl q_to)), (ra 10, .inl (kI, 6, .inl q_goal)), (ra 11, .inl (kI, 1019, .inl q_now)), (ra 14, .inl (kI, 12, .inl q_reach)), (ra 22, .inl (kI, 8, .inl q_notedPort)), (ra 23, .inl (kI, 8, .inl q_notedGoal)), (ra 24, .inl (kI, 8, .inl q_notedHop)), (ra 25, .inl (kI, 8, .inl q_notedAddress)), (ra 26, .inl (kZ, 64, .inl q_fitting))]) [14, 15, 0, 1, 2, 3, 4, 5, 6, 7, 8, 9, 10, 11, 12, 13] rfl
        have hDc := hD.sub (ws' := [(m0, .inr (11, oX11 ra (upd x0 0 0))), (ra 2, .inl (kI, 8, .inl q_told)), (ra 3, .inl (kI, 24, .inl q_kind)), (ra 4, .inl (kI, 24, .inl q_salt)), (ra 6, .inl (kI, 24, .inl q_mute)), (ra 7, .inl (kI, 24, .inl q_late)), (ra 8, .inl (kI, 40, .inl q_from)), (ra 9, .inl (kI, 40, .inl q_to)), (ra 10, .inl (kI, 6, .inl q_goal)), (ra 11, .inl (kI, 1019, .inl q_now)), (ra 14, .inl (kI, 12, .inl q_reach)), (ra 22, .inl (kI, 8, .inl q_notedPort)), (ra 23, .inl (kI, 8, .inl q_notedGoal)), (ra 24, .inl (kI, 8, .inl q_notedHop)), (ra 25, .inl (kI, 8, .inl q_notedAddress)), (ra 26, .inl (kZ, 64, .inl q_fitting))]) [14, 15, 0, 1, 2, 3, 4, 5, 6, 7, 8, 9, 10, 11, 12, 13] (by decide +kernel) rfl
        have hFc := va_free (wc := [(m0, .inr (11, oX11 ra (upd x0 0 0))), (ra 2, .inl (kI, 8, .inl q_told)), (ra 3, .inl (kI, 24, .inl q_kind)), (ra 4, .inl (kI, 24, .inl q_salt)), (ra 6, .inl (kI, 24, .inl q_mute)), (ra 7, .inl (kI, 24, .inl q_late)), (ra 8, .inl (kI, 40, .inl q_from)), (ra 9, .inl (kI, 40, .inl q_to)), (ra 10, .inl (kI, 6, .inl q_goal)), (ra 11, .inl (kI, 1019, .inl q_now)), (ra 14, .inl (kI, 12, .inl q_reach)), (ra 22, .inl (kI, 8, .inl q_notedPort)), (ra 23, .inl (kI, 8, .inl q_notedGoal)), (ra 24, .inl (kI, 8, .inl q_notedHop)), (ra 25, .inl (kI, 8, .inl q_notedAddress)), (ra 26, .inl (kZ, 64, .inl q_fitting))]) hD hS hA [14, 15, 0, 1, 2, 3, 4, 5, 6, 7, 8, 9, 10, 11, 12, 13] rfl
        refine va_callv (va_runV (As := [.int p0]) (rest := []) ⟨hx, hb, hml, hown, hts⟩ (s11_tellFits l dC dI kB kI kJ kZ kC kS H.size m0 ra (upd x0 0 0) q_told q_kind q_salt q_mute q_late q_from q_to q_goal q_now q_reach q_notedPort q_notedGoal q_notedHop q_notedAddress q_fitting p0 ((fI_u hX (k := 0) ((iv_w (iv_k (by decide) (by decide) : iv 0 0 0) (by decide) (by decide))))) (hq_told) (hq_salt) (hq_from) (hq_to) (hq_goal) (hq_now) (hq_notedPort) (hq_notedGoal) (b27) (hLT)) (cwV 1 hts gX11_look_X11_tellFits rfl rfl rfl (by decide +kernel) ⟨Nat.le_of_ble_eq_true rfl, Nat.le_of_ble_eq_true rfl⟩) ⟨fun a U g mk q => by obtain ⟨q0, q1, qP, qE, qD⟩ := q; exact ⟨q0, q1, qP, kE_call qE, qD⟩, va_recv hK hP (ci := 11) (q0 := 14) rfl rfl, fun U hU hW => ⟨rfl, by rw [hU], by rw [hU]; exact hPc, kE_warm hW hE, hDc.weaken (fun _ _ _ _ => trivial)⟩⟩ rfl rfl hl.1 rfl (lv_room (Nat.le_of_ble_eq_true rfl)) dX11_look_38 ⟨Nat.le_of_ble_eq_true rfl, Nat.le_of_ble_eq_true rfl⟩) hS (fun q _ h => hFc q h) hFc (fun u t H1 locs ht hvm w41 hB hz1 hk1 hS => ?_)
        obtain ⟨y42, f43, f44, hq45, hq46, hP1, hD1⟩ := hB
        rw [ht] at hP1
        try dsimp only at w41
        obtain ⟨hP, hD⟩ := va_join (wr := []) (w1 := [(m0, .inr (11, oX11 ra y42)), (ra 2, .inl (kI, 8, .inl q_told)), (ra 3, .inl (kI, 24, .inl q_kind)), (ra 4, .inl (kI, 24, .inl q_salt)), (ra 6, .inl (kI, 24, .inl q_mute)), (ra 7, .inl (kI, 24, .inl q_late)), (ra 8, .inl (kI, 40, .inl q_from)), (ra 9, .inl (kI, 40, .inl q_to)), (ra 10, .inl (kI, 6, .inl q_goal)), (ra 11, .inl (kI, 1019, .inl f43)), (ra 14, .inl (kI, 12, .inl q_reach)), (ra 22, .inl (kI, 8, .inl q_notedPort)), (ra 23, .inl (kI, 8, .inl q_notedGoal)), (ra 24, .inl (kI, 8, .inl q_notedHop)), (ra 25, .inl (kI, 8, .inl q_notedAddress)), (ra 26, .inl (kZ, 64, .inl f44))]) hP hD [14, 15, 0, 1, 2, 3, 4, 5, 6, 7, 8, 9, 10, 11, 12, 13] [] rfl rfl (by decide +kernel) (by decide +kernel) hk1 hFc hP1 hD1
        generalize H1 = H at hP hS ⊢
        have hP : va_P (dC, dI) vwCl [(m0, .inr (11, oX11 ra y42)), (ra 2, .inl (kI, 8, .inl q_told)), (ra 3, .inl (kI, 24, .inl q_kind)), (ra 4, .inl (kI, 24, .inl q_salt)), (ra 6, .inl (kI, 24, .inl q_mute)), (ra 7, .inl (kI, 24, .inl q_late)), (ra 8, .inl (kI, 40, .inl q_from)), (ra 9, .inl (kI, 40, .inl q_to)), (ra 10, .inl (kI, 6, .inl q_goal)), (ra 11, .inl (kI, 1019, .inl f43)), (ra 14, .inl (kI, 12, .inl q_reach)), (ra 22, .inl (kI, 8, .inl q_notedPort)), (ra 23, .inl (kI, 8, .inl q_notedGoal)), (ra 24, .inl (kI, 8, .inl q_notedHop)), (ra 25, .inl (kI, 8, .inl q_notedAddress)), (ra 26, .inl (kZ, 64, .inl f44))] H := hP
        have hD : va_D A [(m0, .inr (11, oX11 ra y42)), (ra 2, .inl (kI, 8, .inl q_told)), (ra 3, .inl (kI, 24, .inl q_kind)), (ra 4, .inl (kI, 24, .inl q_salt)), (ra 6, .inl (kI, 24, .inl q_mute)), (ra 7, .inl (kI, 24, .inl q_late)), (ra 8, .inl (kI, 40, .inl q_from)), (ra 9, .inl (kI, 40, .inl q_to)), (ra 10, .inl (kI, 6, .inl q_goal)), (ra 11, .inl (kI, 1019, .inl f43)), (ra 14, .inl (kI, 12, .inl q_reach)), (ra 22, .inl (kI, 8, .inl q_notedPort)), (ra 23, .inl (kI, 8, .inl q_notedGoal)), (ra 24, .inl (kI, 8, .inl q_notedHop)), (ra 25, .inl (kI, 8, .inl q_notedAddress)), (ra 26, .inl (kZ, 64, .inl f44))] := hD
        refine W.widen (k := 0) (n := 0) (Nat.le_of_ble_eq_true rfl) (Nat.le_of_ble_eq_true rfl) ?_
        refine lv_iconst (v := (-1)) hx hb dX11_look_41 (by decide) ?_
        refine lv_istore (lv' := [(4, .int (-1)), (0, .ref m0), (1, .int p0), (2, .int p1), (3, .int p2)]) hx hb dX11_look_42 hl (by decide) rfl (fun ls hl => ?_)
        refine lv_iconst (v := 0) hx hb dX11_look_44 (by decide) ?_
        refine lv_istore (lv' := [(5, .int 0), (4, .int (-1)), (0, .ref m0), (1, .int p0), (2, .int p1), (3, .int p2)]) hx hb dX11_look_45 hl (by decide) rfl (fun ls hl => ?_)
        refine lv_iconst (v := 0) hx hb dX11_look_47 (by decide) ?_
        refine lv_istore (lv' := [(6, .int 0), (5, .int 0), (4, .int (-1)), (0, .ref m0), (1, .int p0), (2, .int p1), (3, .int p2)]) hx hb dX11_look_48 hl (by decide) rfl (fun ls hl => ?_)
        exact hJ50 _ y42 f43 f44 (-1) 0 0 _ _ _ (Nat.lt_succ_self _) (hq45) (hq46) (b27) (b33) (b39) ((iv_w (iv_k (by decide) (by decide) : iv (-1) (-1) (-1)) (by decide) (by decide))) ((iv_w (iv_k (by decide) (by decide) : iv 0 0 0) (by decide) (by decide))) ((iv_w (iv_k (by decide) (by decide) : iv 0 0 0) (by decide) (by decide))) (hP.sub [0, 1, 2, 3, 4, 5, 6, 7, 8, 9, 10, 11, 12, 13, 14, 15] rfl) (hD.sub [0, 1, 2, 3, 4, 5, 6, 7, 8, 9, 10, 11, 12, 13, 14, 15] (by decide +kernel) rfl) hS (lv_sub hl [3, 4, 5, 6, 2, 1, 0] rfl)
      · have b47 : iv 0 0 r34 := iv_eqL c36 (iv_k (by decide) (by decide) : iv 0 0 0)
        exact hJ30 (upd x0 0 0) _ _ _ ((fI_u hX (k := 0) ((iv_w (iv_k (by decide) (by decide) : iv 0 0 0) (by decide) (by decide))))) ((iv_k (by decide) (by decide) : iv 0 0 0)) (hP.sub [14, 15, 0, 1, 2, 3, 4, 5, 6, 7, 8, 9, 10, 11, 12, 13] rfl) (hD.sub [14, 15, 0, 1, 2, 3, 4, 5, 6, 7, 8, 9, 10, 11, 12, 13] (by decide +kernel) rfl) hS (lv_sub hl [0, 1, 2, 3] rfl)
def rm_s11_years : Room := { frames := 7, cells := 0, slots := 0, locals := 181 }
set_option maxHeartbeats 4000000 in
set_option maxRecDepth 100000 in
theorem s11_years (l : Launch) (dC : Nat → ClassId) (dI : Nat → Nat → Nat) (kB kI kJ kZ kC kS : ClassId) (sz : Nat) (m0 : Nat) (ra : Nat → Nat) (x0 : Nat → Int32) (q_told : Nat → Int32) (q_kind : Nat → Int32) (q_salt : Nat → Int32) (q_pace : Nat → Int32) (q_mute : Nat → Int32) (q_late : Nat → Int32) (q_from : Nat → Int32) (q_to : Nat → Int32) (q_goal : Nat → Int32) (q_now : Nat → Int32) (q_reach : Nat → Int32) (q_met : Nat → Int64) (q_rowThen : Nat → Int32) (p0 : Int32) (p1 : Int32) (p2 : Int32) (hX : fI lX11 hX11 x0) (hq_told : fI lTold hTold q_told) (hq_salt : fI (fun _ => 0) (fun _ => 15) q_salt) (hq_from : fI (fun _ => 0) (fun _ => 11) q_from) (hq_to : fI (fun _ => 0) (fun _ => 11) q_to) (hq_goal : fI (fun _ => 0) (fun _ => 11) q_goal) (hq_now : fI lNow hNow q_now) (hq_rowThen : fI lNow hNow q_rowThen) (hLT : ∀ j : Nat, (j : Int) < (q_told 1).toInt → (q_from j).toInt < (q_to j).toInt) : Met l yX11_years wsX11_years rm_s11_years (va_Pc [.ref m0, .int p0, .int p1, .int p2] (fun U => U.heap.size = sz ∧ va_P (dC, dI) vwCl [(m0, .inr (11, oX11 ra x0)), (ra 2, .inl (kI, 8, .inl q_told)), (ra 3, .inl (kI, 24, .inl q_kind)), (ra 4, .inl (kI, 24, .inl q_salt)), (ra 5, .inl (kI, 24, .inl q_pace)), (ra 6, .inl (kI, 24, .inl q_mute)), (ra 7, .inl (kI, 24, .inl q_late)), (ra 8, .inl (kI, 40, .inl q_from)), (ra 9, .inl (kI, 40, .inl q_to)), (ra 10, .inl (kI, 6, .inl q_goal)), (ra 11, .inl (kI, 1019, .inl q_now)), (ra 14, .inl (kI, 12, .inl q_reach)), (ra 15, .inl (kJ, 24, .inr (.inl q_met))), (ra 27, .inl (kI, 1019, .inl q_rowThen))] U.heap ∧ kE dC dI kB kI kJ kZ kC kS U ∧ va_D (fun _ => True) [(m0, .inr (11, oX11 ra x0)), (ra 2, .inl (kI, 8, .inl q_told)), (ra 3, .inl (kI, 24, .inl q_kind)), (ra 4, .inl (kI, 24, .inl q_salt)), (ra 5, .inl (kI, 24, .inl q_pace)), (ra 6, .inl (kI, 24, .inl q_mute)), (ra 7, .inl (kI, 24, .inl q_late)), (ra 8, .inl (kI, 40, .inl q_from)), (ra 9, .inl (kI, 40, .inl q_to)), (ra 10, .inl (kI, 6, .inl q_goal)), (ra 11, .inl (kI, 1019, .inl q_now)), (ra 14, .inl (kI, 12, .inl q_reach)), (ra 15, .inl (kJ, 24, .inr (.inl q_met))), (ra 27, .inl (kI, 1019, .inl q_rowThen))])) (va_Qi (fun (r : Int32) (_ : Unit) => True) (fun _ t => ∃ (x0' : Nat → Int32) (q_now' : Nat → Int32) (q_met' : Nat → Int64) (q_rowThen' : Nat → Int32), fI lX11 hX11 x0' ∧ fI lNow hNow q_now' ∧ fI lNow hNow q_rowThen' ∧ va_P (dC, dI) vwCl [(m0, .inr (11, oX11 ra x0')), (ra 2, .inl (kI, 8, .inl q_told)), (ra 3, .inl (kI, 24, .inl q_kind)), (ra 4, .inl (kI, 24, .inl q_salt)), (ra 5, .inl (kI, 24, .inl q_pace)), (ra 6, .inl (kI, 24, .inl q_mute)), (ra 7, .inl (kI, 24, .inl q_late)), (ra 8, .inl (kI, 40, .inl q_from)), (ra 9, .inl (kI, 40, .inl q_to)), (ra 10, .inl (kI, 6, .inl q_goal)), (ra 11, .inl (kI, 1019, .inl q_now')), (ra 14, .inl (kI, 12, .inl q_reach)), (ra 15, .inl (kJ, 24, .inr (.inl q_met'))), (ra 27, .inl (kI, 1019, .inl q_rowThen'))] t.heap ∧ va_D (va_A [(m0, .inr (11, oX11 ra x0)), (ra 2, .inl (kI, 8, .inl q_told)), (ra 3, .inl (kI, 24, .inl q_kind)), (ra 4, .inl (kI, 24, .inl q_salt)), (ra 5, .inl (kI, 24, .inl q_pace)), (ra 6, .inl (kI, 24, .inl q_mute)), (ra 7, .inl (kI, 24, .inl q_late)), (ra 8, .inl (kI, 40, .inl q_from)), (ra 9, .inl (kI, 40, .inl q_to)), (ra 10, .inl (kI, 6, .inl q_goal)), (ra 11, .inl (kI, 1019, .inl q_now)), (ra 14, .inl (kI, 12, .inl q_reach)), (ra 15, .inl (kJ, 24, .inr (.inl q_met))), (ra 27, .inl (kI, 1019, .inl q_rowThen))] sz) [(m0, .inr (11, oX11 ra x0')), (ra 2, .inl (kI, 8, .inl q_told)), (ra 3, .inl (kI, 24, .inl q_kind)), (ra 4, .inl (kI, 24, .inl q_salt)), (ra 5, .inl (kI, 24, .inl q_pace)), (ra 6, .inl (kI, 24, .inl q_mute)), (ra 7, .inl (kI, 24, .inl q_late)), (ra 8, .inl (kI, 40, .inl q_from)), (ra 9, .inl (kI, 40, .inl q_to)), (ra 10, .inl (kI, 6, .inl q_goal)), (ra 11, .inl (kI, 1019, .inl q_now')), (ra 14, .inl (kI, 12, .inl q_reach)), (ra 15, .inl (kJ, 24, .inr (.inl q_met'))), (ra 27, .inl (kI, 1019, .inl q_rowThen'))]) (va_A [(m0, .inr (11, oX11 ra x0)), (ra 2, .inl (kI, 8, .inl q_told)), (ra 3, .inl (kI, 24, .inl q_kind)), (ra 4, .inl (kI, 24, .inl q_salt)), (ra 5, .inl (kI, 24, .inl q_pace)), (ra 6, .inl (kI, 24, .inl q_mute)), (ra 7, .inl (kI, 24, .inl q_late)), (ra 8, .inl (kI, 40, .inl q_from)), (ra 9, .inl (kI, 40, .inl q_to)), (ra 10, .inl (kI, 6, .inl q_goal)), (ra 11, .inl (kI, 1019, .inl q_now)), (ra 14, .inl (kI, 12, .inl q_reach)), (ra 15, .inl (kJ, 24, .inr (.inl q_met))), (ra 27, .inl (kI, 1019, .inl q_rowThen))] sz)) 0 0 (va_A [(m0, .inr (11, oX11 ra x0)), (ra 2, .inl (kI, 8, .inl q_told)), (ra 3, .inl (kI, 24, .inl q_kind)), (ra 4, .inl (kI, 24, .inl q_salt)), (ra 5, .inl (kI, 24, .inl q_pace)), (ra 6, .inl (kI, 24, .inl q_mute)), (ra 7, .inl (kI, 24, .inl q_late)), (ra 8, .inl (kI, 40, .inl q_from)), (ra 9, .inl (kI, 40, .inl q_to)), (ra 10, .inl (kI, 6, .inl q_goal)), (ra 11, .inl (kI, 1019, .inl q_now)), (ra 14, .inl (kI, 12, .inl q_reach)), (ra 15, .inl (kJ, 24, .inr (.inl q_met))), (ra 27, .inl (kI, 1019, .inl q_rowThen))] sz) := by
  refine Met.ofW (cc := cX11_years) (maxL := 7) (ret := (some .int)) (by decide) rfl ?_
  intro p e s m args0 below meth c s₁ B hml hv
  obtain ⟨hargs, hsz, hP, hE, hD0⟩ := hv
  have hx := B.exec
  have hb := B.bytes
  have hr := B.returns
  have hts := atoms_spec (ws := wsX11_years) B.pre
  have hown : s.vm.findClass RX11 = some m.cls := findClass_of_methodNamed B.named
  have hlocks := B.notSynchronized
  have hK := hE.1
  have hin11 : ∀ w ∈ wsX110, w ∈ wsX11_years := fun _ h9 => List.mem_cons_of_mem _ (List.mem_append_right _ h9)
  have hw_0 := hts (.fieldLink RX11 60 "PathProberModel" "now" "[I") (List.mem_of_getElem? (i := 3) (by decide +kernel))
  have hw_1 := hts (.fieldLink RX11 118 "PathProberModel" "rowThen" "[I") (List.mem_of_getElem? (i := 2) (by decide +kernel))
  have hw_2 := hts (.fieldLink RX11 142 "PathProberModel" "code" "I") (List.mem_of_getElem? (i := 1) (by decide +kernel))
  have hw_3 := hts (.fieldLink RX11 460 "PathProberModel" "seedNow" "I") (List.mem_of_getElem? (i := 4) (by decide +kernel))
  subst hsz
  have hD := hD0.self (sz := s.heap.size)
  generalize hAe : va_A [(m0, .inr (11, oX11 ra x0)), (ra 2, .inl (kI, 8, .inl q_told)), (ra 3, .inl (kI, 24, .inl q_kind)), (ra 4, .inl (kI, 24, .inl q_salt)), (ra 5, .inl (kI, 24, .inl q_pace)), (ra 6, .inl (kI, 24, .inl q_mute)), (ra 7, .inl (kI, 24, .inl q_late)), (ra 8, .inl (kI, 40, .inl q_from)), (ra 9, .inl (kI, 40, .inl q_to)), (ra 10, .inl (kI, 6, .inl q_goal)), (ra 11, .inl (kI, 1019, .inl q_now)), (ra 14, .inl (kI, 12, .inl q_reach)), (ra 15, .inl (kJ, 24, .inr (.inl q_met))), (ra 27, .inl (kI, 1019, .inl q_rowThen))] s.heap.size = A at hD ⊢
  have hA : ∀ q : Nat, s.heap.size ≤ q → A q := fun q h => by rw [← hAe]; exact Or.inr h
  have hS : va_S A s.heap s.heap [] := va_S.rf
  have hP : va_P (dC, dI) vwCl [(m0, .inr (11, oX11 ra x0)), (ra 2, .inl (kI, 8, .inl q_told)), (ra 3, .inl (kI, 24, .inl q_kind)), (ra 4, .inl (kI, 24, .inl q_salt)), (ra 5, .inl (kI, 24, .inl q_pace)), (ra 6, .inl (kI, 24, .inl q_mute)), (ra 7, .inl (kI, 24, .inl q_late)), (ra 8, .inl (kI, 40, .inl q_from)), (ra 9, .inl (kI, 40, .inl q_to)), (ra 10, .inl (kI, 6, .inl q_goal)), (ra 11, .inl (kI, 1019, .inl q_now)), (ra 14, .inl (kI, 12, .inl q_reach)), (ra 15, .inl (kJ, 24, .inr (.inl q_met))), (ra 27, .inl (kI, 1019, .inl q_rowThen))] s.heap := hP
  have hl := lv_entry ([.ref m0, .int p0, .int p1, .int p2]) (n := 7) (Nat.le_of_ble_eq_true rfl)
  have hla : entryFrame m args0 7 = entryFrame m ([.ref m0, .int p0, .int p1, .int p2] : List Value).toArray 7 := by rw [hargs]
  rw [hla, lg_entry_eq]
  generalize (lg_sl ([.ref m0, .int p0, .int p1, .int p2]) ++ List.replicate (7 - (lg_sl ([.ref m0, .int p0, .int p1, .int p2])).length) Slot.unset).toArray = ls at hl ⊢
  have hl : lv_has ls 7 [(0, .ref m0), (1, .int p0), (2, .int p1), (3, .int p2)] := hl
  have hJ141 : ∀ (y141_0 : Nat → Int32) (g141_10 : Nat → Int32) (g141_12 : Nat → Int64) (g141_13 : Nat → Int32) (v141_loc4 : Int32) (v141_loc5 : Int32) (v141_loc6 : Int32) (v141_stk0 : Int32) (H : Heap) (locs : List Loc) (ls : Array Slot), fI lX11 hX11 y141_0 → fI lNow hNow g141_10 → fI lNow hNow g141_13 → iv 0 40 p1 → iv 0 2 p2 → iv 0 12 v141_loc6 → va_P (dC, dI) vwCl [(m0, .inr (11, oX11 ra y141_0)), (ra 2, .inl (kI, 8, .inl q_told)), (ra 3, .inl (kI, 24, .inl q_kind)), (ra 4, .inl (kI, 24, .inl q_salt)), (ra 5, .inl (kI, 24, .inl q_pace)), (ra 6, .inl (kI, 24, .inl q_mute)), (ra 7, .inl (kI, 24, .inl q_late)), (ra 8, .inl (kI, 40, .inl q_from)), (ra 9, .inl (kI, 40, .inl q_to)), (ra 10, .inl (kI, 6, .inl q_goal)), (ra 11, .inl (kI, 1019, .inl g141_10)), (ra 14, .inl (kI, 12, .inl q_reach)), (ra 15, .inl (kJ, 24, .inr (.inl g141_12))), (ra 27, .inl (kI, 1019, .inl g141_13))] H → va_D A [(m0, .inr (11, oX11 ra y141_0)), (ra 2, .inl (kI, 8, .inl q_told)), (ra 3, .inl (kI, 24, .inl q_kind)), (ra 4, .inl (kI, 24, .inl q_salt)), (ra 5, .inl (kI, 24, .inl q_pace)), (ra 6, .inl (kI, 24, .inl q_mute)), (ra 7, .inl (kI, 24, .inl q_late)), (ra 8, .inl (kI, 40, .inl q_from)), (ra 9, .inl (kI, 40, .inl q_to)), (ra 10, .inl (kI, 6, .inl q_goal)), (ra 11, .inl (kI, 1019, .inl g141_10)), (ra 14, .inl (kI, 12, .inl q_reach)), (ra 15, .inl (kJ, 24, .inr (.inl g141_12))), (ra 27, .inl (kI, 1019, .inl g141_13))] → va_S A s.heap H locs → lv_has ls 7 [(0, .ref m0), (1, .int p0), (2, .int p1), (3, .int p2), (4, .int v141_loc4), (5, .int v141_loc5), (6, .int v141_loc6)] → W p l e (headSpec wsX11_years rm_s11_years).room s m args0 below meth c H locs (0) (0) (MQ below (va_Qi (fun (r : Int32) (_ : Unit) => True) (fun _ t => ∃ (x0' : Nat → Int32) (q_now' : Nat → Int32) (q_met' : Nat → Int64) (q_rowThen' : Nat → Int32), fI lX11 hX11 x0' ∧ fI lNow hNow q_now' ∧ fI lNow hNow q_rowThen' ∧ va_P (dC, dI) vwCl [(m0, .inr (11, oX11 ra x0')), (ra 2, .inl (kI, 8, .inl q_told)), (ra 3, .inl (kI, 24, .inl q_kind)), (ra 4, .inl (kI, 24, .inl q_salt)), (ra 5, .inl (kI, 24, .inl q_pace)), (ra 6, .inl (kI, 24, .inl q_mute)), (ra 7, .inl (kI, 24, .inl q_late)), (ra 8, .inl (kI, 40, .inl q_from)), (ra 9, .inl (kI, 40, .inl q_to)), (ra 10, .inl (kI, 6, .inl q_goal)), (ra 11, .inl (kI, 1019, .inl q_now')), (ra 14, .inl (kI, 12, .inl q_reach)), (ra 15, .inl (kJ, 24, .inr (.inl q_met'))), (ra 27, .inl (kI, 1019, .inl q_rowThen'))] t.heap ∧ va_D A [(m0, .inr (11, oX11 ra x0')), (ra 2, .inl (kI, 8, .inl q_told)), (ra 3, .inl (kI, 24, .inl q_kind)), (ra 4, .inl (kI, 24, .inl q_salt)), (ra 5, .inl (kI, 24, .inl q_pace)), (ra 6, .inl (kI, 24, .inl q_mute)), (ra 7, .inl (kI, 24, .inl q_late)), (ra 8, .inl (kI, 40, .inl q_from)), (ra 9, .inl (kI, 40, .inl q_to)), (ra 10, .inl (kI, 6, .inl q_goal)), (ra 11, .inl (kI, 1019, .inl q_now')), (ra 14, .inl (kI, 12, .inl q_reach)), (ra 15, .inl (kJ, 24, .inr (.inl q_met'))), (ra 27, .inl (kI, 1019, .inl q_rowThen'))]) A) args0 s 0 0 A) (F0 m 141 ls [.int v141_stk0]) := by
    intro y141_0 g141_10 g141_12 g141_13 v141_loc4 v141_loc5 v141_loc6 v141_stk0 H locs ls hI141_0 hI141_10 hI141_13 h141_4 h141_5 h141_6 hP hD hS hl
    refine lv_istore (lv' := [(6, .int v141_stk0), (0, .ref m0), (1, .int p0), (2, .int p1), (3, .int p2), (4, .int v141_loc4), (5, .int v141_loc5)]) hx hb dX11_years_141 hl (by decide) rfl (fun ls hl => ?_)
    refine lv_aload_n hx hb dX11_years_143 rfl (lv_at hl 1 rfl) ?_
    refine va_get (D := (dC, dI)) (ci := 11) (v := .ref (ra 11)) (C := RX11) (T := TX11) (N := 61) hx hb hts hin11 hown hK hP 0 rfl rfl 12 (by decide) hw_0 (fun _ h9 => h9) rfl dX11_years_144 ?_
    refine lv_aload_n hx hb dX11_years_147 rfl (lv_at hl 1 rfl) ?_
    refine va_get (D := (dC, dI)) (ci := 11) (v := .ref (ra 27)) (C := RX11) (T := TX11) (N := 61) hx hb hts hin11 hown hK hP 0 rfl rfl 50 (by decide) hw_1 (fun _ h9 => h9) rfl dX11_years_148 ?_
    have hPc := hP.sub (ws' := [(ra 11, .inl (kI, 1019, .inl g141_10)), (ra 27, .inl (kI, 1019, .inl g141_13))]) [10, 13] rfl
    have hDc := hD.sub (ws' := [(ra 11, .inl (kI, 1019, .inl g141_10)), (ra 27, .inl (kI, 1019, .inl g141_13))]) [10, 13] (by decide +kernel) rfl
    have hFc := va_free (wc := [(ra 11, .inl (kI, 1019, .inl g141_10)), (ra 27, .inl (kI, 1019, .inl g141_13))]) hD hS hA [10, 13] rfl
    refine va_callv (va_runS (As := [.ref (ra 11), .ref (ra 27)]) (rest := []) ⟨hx, hb, hml, hown, hts⟩ (s11_copyTo_now l dC dI kB kI kJ kZ kC kS H.size (ra 11) (ra 27) g141_10 g141_13 (hI141_10) (hI141_13)) (va_cwS 2 hts gX11_years_X11_copyTo rfl rfl rfl (by decide +kernel) ⟨Nat.le_of_ble_eq_true rfl, Nat.le_of_ble_eq_true rfl⟩) ⟨fun a U g mk q => by obtain ⟨q0, q1, qP, qE, qD⟩ := q; exact ⟨q0, q1, qP, kE_call qE, qD⟩, fun U hU hW => ⟨rfl, by rw [hU], by rw [hU]; exact hPc, kE_warm hW hE, hDc.weaken (fun _ _ _ _ => trivial)⟩⟩ rfl rfl hl.1 rfl (lv_room (Nat.le_of_ble_eq_true rfl)) dX11_years_151 ⟨Nat.le_of_ble_eq_true rfl, Nat.le_of_ble_eq_true rfl⟩) hS (fun q _ h => hFc q h) hFc (fun u t H1 locs ht hvm w2 hB hz1 hk1 hS => ?_)
    obtain ⟨f3, hq4, hP1, hD1⟩ := hB
    rw [ht] at hP1
    try dsimp only at w2
    obtain ⟨hP, hD⟩ := va_join (wr := [(m0, .inr (11, oX11 ra y141_0)), (ra 2, .inl (kI, 8, .inl q_told)), (ra 3, .inl (kI, 24, .inl q_kind)), (ra 4, .inl (kI, 24, .inl q_salt)), (ra 5, .inl (kI, 24, .inl q_pace)), (ra 6, .inl (kI, 24, .inl q_mute)), (ra 7, .inl (kI, 24, .inl q_late)), (ra 8, .inl (kI, 40, .inl q_from)), (ra 9, .inl (kI, 40, .inl q_to)), (ra 10, .inl (kI, 6, .inl q_goal)), (ra 14, .inl (kI, 12, .inl q_reach)), (ra 15, .inl (kJ, 24, .inr (.inl g141_12)))]) (w1 := [(ra 11, .inl (kI, 1019, .inl f3)), (ra 27, .inl (kI, 1019, .inl g141_13))]) hP hD [10, 13] [0, 1, 2, 3, 4, 5, 6, 7, 8, 9, 11, 12] rfl rfl (by decide +kernel) (by decide +kernel) hk1 hFc hP1 hD1
    generalize H1 = H at hP hS ⊢
    have hP : va_P (dC, dI) vwCl [(m0, .inr (11, oX11 ra y141_0)), (ra 2, .inl (kI, 8, .inl q_told)), (ra 3, .inl (kI, 24, .inl q_kind)), (ra 4, .inl (kI, 24, .inl q_salt)), (ra 5, .inl (kI, 24, .inl q_pace)), (ra 6, .inl (kI, 24, .inl q_mute)), (ra 7, .inl (kI, 24, .inl q_late)), (ra 8, .inl (kI, 40, .inl q_from)), (ra 9, .inl (kI, 40, .inl q_to)), (ra 10, .inl (kI, 6, .inl q_goal)), (ra 14, .inl (kI, 12, .inl q_reach)), (ra 15, .inl (kJ, 24, .inr (.inl g141_12))), (ra 11, .inl (kI, 1019, .inl f3)), (ra 27, .inl (kI, 1019, .inl g141_13))] H := hP
    have hD : va_D A [(m0, .inr (11, oX11 ra y141_0)), (ra 2, .inl (kI, 8, .inl q_told)), (ra 3, .inl (kI, 24, .inl q_kind)), (ra 4, .inl (kI, 24, .inl q_salt)), (ra 5, .inl (kI, 24, .inl q_pace)), (ra 6, .inl (kI, 24, .inl q_mute)), (ra 7, .inl (kI, 24, .inl q_late)), (ra 8, .inl (kI, 40, .inl q_from)), (ra 9, .inl (kI, 40, .inl q_to)), (ra 10, .inl (kI, 6, .inl q_goal)), (ra 14, .inl (kI, 12, .inl q_reach)), (ra 15, .inl (kJ, 24, .inr (.inl g141_12))), (ra 11, .inl (kI, 1019, .inl f3)), (ra 27, .inl (kI, 1019, .inl g141_13))] := hD
    refine W.widen (k := 0) (n := 0) (Nat.le_of_ble_eq_true rfl) (Nat.le_of_ble_eq_true rfl) ?_
    refine lv_iload hx hb dX11_years_154 (lv_at hl 0 rfl) ?_
    have hP9 := hP.sub (ws' := [(m0, .inr (11, oX11 ra y141_0)), (ra 2, .inl (kI, 8, .inl q_told)), (ra 3, .inl (kI, 24, .inl q_kind)), (ra 4, .inl (kI, 24, .inl q_salt)), (ra 5, .inl (kI, 24, .inl q_pace)), (ra 6, .inl (kI, 24, .inl q_mute)), (ra 7, .inl (kI, 24, .inl q_late)), (ra 8, .inl (kI, 40, .inl q_from)), (ra 9, .inl (kI, 40, .inl q_to)), (ra 10, .inl (kI, 6, .inl q_goal)), (ra 11, .inl (kI, 1019, .inl f3)), (ra 14, .inl (kI, 12, .inl q_reach)), (ra 15, .inl (kJ, 24, .inr (.inl g141_12))), (ra 27, .inl (kI, 1019, .inl g141_13))]) [0, 1, 2, 3, 4, 5, 6, 7, 8, 9, 12, 10, 11, 13] rfl
    have hD9 := hD.sub (ws' := [(m0, .inr (11, oX11 ra y141_0)), (ra 2, .inl (kI, 8, .inl q_told)), (ra 3, .inl (kI, 24, .inl q_kind)), (ra 4, .inl (kI, 24, .inl q_salt)), (ra 5, .inl (kI, 24, .inl q_pace)), (ra 6, .inl (kI, 24, .inl q_mute)), (ra 7, .inl (kI, 24, .inl q_late)), (ra 8, .inl (kI, 40, .inl q_from)), (ra 9, .inl (kI, 40, .inl q_to)), (ra 10, .inl (kI, 6, .inl q_goal)), (ra 11, .inl (kI, 1019, .inl f3)), (ra 14, .inl (kI, 12, .inl q_reach)), (ra 15, .inl (kJ, 24, .inr (.inl g141_12))), (ra 27, .inl (kI, 1019, .inl g141_13))]) [0, 1, 2, 3, 4, 5, 6, 7, 8, 9, 12, 10, 11, 13] (by decide +kernel) rfl
    exact W.iret (v := v141_stk0) hx hb hr (fun t ht hW => ⟨⟨v141_stk0, (), rfl, trivial, y141_0, f3, g141_12, g141_13, hI141_0, hq4, hI141_13, by rw [ht]; exact hP9, hD9⟩, hS.F ht⟩) hS.2.2 dX11_years_156
  have hJ83 : ∀ (n : Nat) (y83_0 : Nat → Int32) (g83_10 : Nat → Int32) (g83_12 : Nat → Int64) (g83_13 : Nat → Int32) (v83_loc4 : Int32) (v83_loc5 : Int32) (v83_loc6 : Int32) (H : Heap) (locs : List Loc) (ls : Array Slot), (12 - v83_loc6.toInt).toNat < n → fI lX11 hX11 y83_0 → fI lNow hNow g83_10 → fI lNow hNow g83_13 → iv 0 40 p1 → iv 0 2 p2 → iv 0 12 v83_loc6 → va_P (dC, dI) vwCl [(m0, .inr (11, oX11 ra y83_0)), (ra 2, .inl (kI, 8, .inl q_told)), (ra 3, .inl (kI, 24, .inl q_kind)), (ra 4, .inl (kI, 24, .inl q_salt)), (ra 5, .inl (kI, 24, .inl q_pace)), (ra 6, .inl (kI, 24, .inl q_mute)), (ra 7, .inl (kI, 24, .inl q_late)), (ra 8, .inl (kI, 40, .inl q_from)), (ra 9, .inl (kI, 40, .inl q_to)), (ra 10, .inl (kI, 6, .inl q_goal)), (ra 11, .inl (kI, 1019, .inl g83_10)), (ra 14, .inl (kI, 12, .inl q_reach)), (ra 15, .inl (kJ, 24, .inr (.inl g83_12))), (ra 27, .inl (kI, 1019, .inl g83_13))] H → va_D A [(m0, .inr (11, oX11 ra y83_0)), (ra 2, .inl (kI, 8, .inl q_told)), (ra 3, .inl (kI, 24, .inl q_kind)), (ra 4, .inl (kI, 24, .inl q_salt)), (ra 5, .inl (kI, 24, .inl q_pace)), (ra 6, .inl (kI, 24, .inl q_mute)), (ra 7, .inl (kI, 24, .inl q_late)), (ra 8, .inl (kI, 40, .inl q_from)), (ra 9, .inl (kI, 40, .inl q_to)), (ra 10, .inl (kI, 6, .inl q_goal)), (ra 11, .inl (kI, 1019, .inl g83_10)), (ra 14, .inl (kI, 12, .inl q_reach)), (ra 15, .inl (kJ, 24, .inr (.inl g83_12))), (ra 27, .inl (kI, 1019, .inl g83_13))] → va_S A s.heap H locs → lv_has ls 7 [(0, .ref m0), (1, .int p0), (2, .int p1), (3, .int p2), (4, .int v83_loc4), (5, .int v83_loc5), (6, .int v83_loc6)] → W p l e (headSpec wsX11_years rm_s11_years).room s m args0 below meth c H locs (0) (0) (MQ below (va_Qi (fun (r : Int32) (_ : Unit) => True) (fun _ t => ∃ (x0' : Nat → Int32) (q_now' : Nat → Int32) (q_met' : Nat → Int64) (q_rowThen' : Nat → Int32), fI lX11 hX11 x0' ∧ fI lNow hNow q_now' ∧ fI lNow hNow q_rowThen' ∧ va_P (dC, dI) vwCl [(m0, .inr (11, oX11 ra x0')), (ra 2, .inl (kI, 8, .inl q_told)), (ra 3, .inl (kI, 24, .inl q_kind)), (ra 4, .inl (kI, 24, .inl q_salt)), (ra 5, .inl (kI, 24, .inl q_pace)), (ra 6, .inl (kI, 24, .inl q_mute)), (ra 7, .inl (kI, 24, .inl q_late)), (ra 8, .inl (kI, 40, .inl q_from)), (ra 9, .inl (kI, 40, .inl q_to)), (ra 10, .inl (kI, 6, .inl q_goal)), (ra 11, .inl (kI, 1019, .inl q_now')), (ra 14, .inl (kI, 12, .inl q_reach)), (ra 15, .inl (kJ, 24, .inr (.inl q_met'))), (ra 27, .inl (kI, 1019, .inl q_rowThen'))] t.heap ∧ va_D A [(m0, .inr (11, oX11 ra x0')), (ra 2, .inl (kI, 8, .inl q_told)), (ra 3, .inl (kI, 24, .inl q_kind)), (ra 4, .inl (kI, 24, .inl q_salt)), (ra 5, .inl (kI, 24, .inl q_pace)), (ra 6, .inl (kI, 24, .inl q_mute)), (ra 7, .inl (kI, 24, .inl q_late)), (ra 8, .inl (kI, 40, .inl q_from)), (ra 9, .inl (kI, 40, .inl q_to)), (ra 10, .inl (kI, 6, .inl q_goal)), (ra 11, .inl (kI, 1019, .inl q_now')), (ra 14, .inl (kI, 12, .inl q_reach)), (ra 15, .inl (kJ, 24, .inr (.inl q_met'))), (ra 27, .inl (kI, 1019, .inl q_rowThen'))]) A) args0 s 0 0 A) (F0 m 83 ls []) := by
    intro n
    induction n with
    | zero => intro y83_0 g83_10 g83_12 g83_13 v83_loc4 v83_loc5 v83_loc6 H locs ls hm83; exact absurd hm83 (Nat.not_lt_zero _)
    | succ n ih83 =>
      intro y83_0 g83_10 g83_12 g83_13 v83_loc4 v83_loc5 v83_loc6 H locs ls hm83 hI83_0 hI83_10 hI83_13 h83_4 h83_5 h83_6 hP hD hS hl
      refine lv_iload hx hb dX11_years_83 (lv_at hl 6 rfl) ?_
      refine lv_aload_n hx hb dX11_years_85 rfl (lv_at hl 0 rfl) ?_
      have hPc := hP.sub (ws' := [(m0, .inr (11, oX11 ra y83_0)), (ra 2, .inl (kI, 8, .inl q_told))]) [0, 1] rfl
      have hDc := hD.sub (ws' := [(m0, .inr (11, oX11 ra y83_0)), (ra 2, .inl (kI, 8, .inl q_told))]) [0, 1] (by decide +kernel) rfl
      have hFc := va_free (wc := [(m0, .inr (11, oX11 ra y83_0)), (ra 2, .inl (kI, 8, .inl q_told))]) hD hS hA [0, 1] rfl
      refine va_calli (va_runV (As := []) (rest := [.int v83_loc6]) ⟨hx, hb, hml, hown, hts⟩ (s11_routers l dC dI kB kI kJ kZ kC kS H.size m0 ra y83_0 q_told (hI83_0) (hq_told)) (cwV 0 hts gX11_years_X11_routers rfl rfl rfl (by decide +kernel) ⟨Nat.le_of_ble_eq_true rfl, Nat.le_of_ble_eq_true rfl⟩) ⟨fun a U g mk q => by obtain ⟨q0, q1, qP, qE, qD⟩ := q; exact ⟨q0, q1, qP, kE_call qE, qD⟩, va_recv hK hP (ci := 11) (q0 := 0) rfl rfl, fun U hU hW => ⟨rfl, by rw [hU], by rw [hU]; exact hPc, kE_warm hW hE, hDc.weaken (fun _ _ _ _ => trivial)⟩⟩ rfl rfl hl.1 rfl (lv_room (Nat.le_of_ble_eq_true rfl)) dX11_years_86 ⟨Nat.le_of_ble_eq_true rfl, Nat.le_of_ble_eq_true rfl⟩) hS (fun q _ h => hFc q h) hFc (fun r5 u t H1 locs ht hvm w6 hB hz1 hk1 hS => ?_)
      obtain ⟨hP1, hD1⟩ := hB
      rw [ht] at hP1
      try dsimp only at w6
      obtain ⟨hP, hD⟩ := va_join (wr := [(ra 3, .inl (kI, 24, .inl q_kind)), (ra 4, .inl (kI, 24, .inl q_salt)), (ra 5, .inl (kI, 24, .inl q_pace)), (ra 6, .inl (kI, 24, .inl q_mute)), (ra 7, .inl (kI, 24, .inl q_late)), (ra 8, .inl (kI, 40, .inl q_from)), (ra 9, .inl (kI, 40, .inl q_to)), (ra 10, .inl (kI, 6, .inl q_goal)), (ra 11, .inl (kI, 1019, .inl g83_10)), (ra 14, .inl (kI, 12, .inl q_reach)), (ra 15, .inl (kJ, 24, .inr (.inl g83_12))), (ra 27, .inl (kI, 1019, .inl g83_13))]) (w1 := [(m0, .inr (11, oX11 ra y83_0)), (ra 2, .inl (kI, 8, .inl q_told))]) hP hD [0, 1] [2, 3, 4, 5, 6, 7, 8, 9, 10, 11, 12, 13] rfl rfl (by decide +kernel) (by decide +kernel) hk1 hFc hP1 hD1
      generalize H1 = H at hP hS ⊢
      have hP : va_P (dC, dI) vwCl [(ra 3, .inl (kI, 24, .inl q_kind)), (ra 4, .inl (kI, 24, .inl q_salt)), (ra 5, .inl (kI, 24, .inl q_pace)), (ra 6, .inl (kI, 24, .inl q_mute)), (ra 7, .inl (kI, 24, .inl q_late)), (ra 8, .inl (kI, 40, .inl q_from)), (ra 9, .inl (kI, 40, .inl q_to)), (ra 10, .inl (kI, 6, .inl q_goal)), (ra 11, .inl (kI, 1019, .inl g83_10)), (ra 14, .inl (kI, 12, .inl q_reach)), (ra 15, .inl (kJ, 24, .inr (.inl g83_12))), (ra 27, .inl (kI, 1019, .inl g83_13)), (m0, .inr (11, oX11 ra y83_0)), (ra 2, .inl (kI, 8, .inl q_told))] H := hP
      have hD : va_D A [(ra 3, .inl (kI, 24, .inl q_kind)), (ra 4, .inl (kI, 24, .inl q_salt)), (ra 5, .inl (kI, 24, .inl q_pace)), (ra 6, .inl (kI, 24, .inl q_mute)), (ra 7, .inl (kI, 24, .inl q_late)), (ra 8, .inl (kI, 40, .inl q_from)), (ra 9, .inl (kI, 40, .inl q_to)), (ra 10, .inl (kI, 6, .inl q_goal)), (ra 11, .inl (kI, 1019, .inl g83_10)), (ra 14, .inl (kI, 12, .inl q_reach)), (ra 15, .inl (kJ, 24, .inr (.inl g83_12))), (ra 27, .inl (kI, 1019, .inl g83_13)), (m0, .inr (11, oX11 ra y83_0)), (ra 2, .inl (kI, 8, .inl q_told))] := hD
      refine W.widen (k := 0) (n := 0) (Nat.le_of_ble_eq_true rfl) (Nat.le_of_ble_eq_true rfl) ?_
      subst w6
      refine lv_icmp_ge (tgt := 113) hx hb dX11_years_89 (by decide) (fun c7 => ?_) (fun c7 => ?_)
      · refine lv_iload_n hx hb dX11_years_113 rfl (lv_at hl 3 rfl) ?_
        refine lv_if_ne (tgt := 124) hx hb dX11_years_114 (by decide) (fun c8 => ?_) (fun c8 => ?_)
        · have b9 : iv 1 2 p2 := iv_neLo c8 h83_5 (iv_k (by decide) (by decide) : iv 0 0 0) (by decide) (by decide)
          refine lv_iload_n hx hb dX11_years_124 rfl (lv_at hl 3 rfl) ?_
          refine lv_iconst (v := 1) hx hb dX11_years_125 (by decide) ?_
          refine lv_icmp_ne (tgt := 139) hx hb dX11_years_126 (by decide) (fun c10 => ?_) (fun c10 => ?_)
          · have b11 : iv 2 2 p2 := iv_neLo c10 b9 (iv_k (by decide) (by decide) : iv 1 1 1) (by decide) (by decide)
            refine lv_iload hx hb dX11_years_139 (lv_at hl 5 rfl) ?_
            exact hJ141 y83_0 g83_10 g83_12 g83_13 v83_loc4 v83_loc5 v83_loc6 v83_loc5 _ _ _ (hI83_0) (hI83_10) (hI83_13) (h83_4) ((iv_w b11 (by decide) (by decide))) (h83_6) (hP.sub [12, 13, 0, 1, 2, 3, 4, 5, 6, 7, 8, 9, 10, 11] rfl) (hD.sub [12, 13, 0, 1, 2, 3, 4, 5, 6, 7, 8, 9, 10, 11] (by decide +kernel) rfl) hS (lv_sub hl [0, 1, 2, 3, 4, 5, 6] rfl)
          · have b12 : iv 1 1 p2 := iv_eqL c10 (iv_k (by decide) (by decide) : iv 1 1 1)
            refine lv_aload_n hx hb dX11_years_129 rfl (lv_at hl 0 rfl) ?_
            have hPc := hP.sub (ws' := [(m0, .inr (11, oX11 ra y83_0)), (ra 11, .inl (kI, 1019, .inl g83_10))]) [12, 8] rfl
            have hDc := hD.sub (ws' := [(m0, .inr (11, oX11 ra y83_0)), (ra 11, .inl (kI, 1019, .inl g83_10))]) [12, 8] (by decide +kernel) rfl
            have hFc := va_free (wc := [(m0, .inr (11, oX11 ra y83_0)), (ra 11, .inl (kI, 1019, .inl g83_10))]) hD hS hA [12, 8] rfl
            refine va_calli (va_runV (As := []) (rest := []) ⟨hx, hb, hml, hown, hts⟩ (s11_sentAll l dC dI kB kI kJ kZ kC kS H.size m0 ra y83_0 g83_10 (hI83_0) (hI83_10)) (cwV 0 hts gX11_years_X11_sentAll rfl rfl rfl (by decide +kernel) ⟨Nat.le_of_ble_eq_true rfl, Nat.le_of_ble_eq_true rfl⟩) ⟨fun a U g mk q => by obtain ⟨q0, q1, qP, qE, qD⟩ := q; exact ⟨q0, q1, qP, kE_call qE, qD⟩, va_recv hK hP (ci := 11) (q0 := 12) rfl rfl, fun U hU hW => ⟨rfl, by rw [hU], by rw [hU]; exact hPc, kE_warm hW hE, hDc.weaken (fun _ _ _ _ => trivial)⟩⟩ rfl rfl hl.1 rfl (lv_room (Nat.le_of_ble_eq_true rfl)) dX11_years_130 ⟨Nat.le_of_ble_eq_true rfl, Nat.le_of_ble_eq_true rfl⟩) hS (fun q _ h => hFc q h) hFc (fun r13 u t H1 locs ht hvm w14 hB hz1 hk1 hS => ?_)
            obtain ⟨hP1, hD1⟩ := hB
            rw [ht] at hP1
            try dsimp only at w14
            obtain ⟨hP, hD⟩ := va_join (wr := [(ra 3, .inl (kI, 24, .inl q_kind)), (ra 4, .inl (kI, 24, .inl q_salt)), (ra 5, .inl (kI, 24, .inl q_pace)), (ra 6, .inl (kI, 24, .inl q_mute)), (ra 7, .inl (kI, 24, .inl q_late)), (ra 8, .inl (kI, 40, .inl q_from)), (ra 9, .inl (kI, 40, .inl q_to)), (ra 10, .inl (kI, 6, .inl q_goal)), (ra 14, .inl (kI, 12, .inl q_reach)), (ra 15, .inl (kJ, 24, .inr (.inl g83_12))), (ra 27, .inl (kI, 1019, .inl g83_13)), (ra 2, .inl (kI, 8, .inl q_told))]) (w1 := [(m0, .inr (11, oX11 ra y83_0)), (ra 11, .inl (kI, 1019, .inl g83_10))]) hP hD [12, 8] [0, 1, 2, 3, 4, 5, 6, 7, 9, 10, 11, 13] rfl rfl (by decide +kernel) (by decide +kernel) hk1 hFc hP1 hD1
            generalize H1 = H at hP hS ⊢
            have hP : va_P (dC, dI) vwCl [(ra 3, .inl (kI, 24, .inl q_kind)), (ra 4, .inl (kI, 24, .inl q_salt)), (ra 5, .inl (kI, 24, .inl q_pace)), (ra 6, .inl (kI, 24, .inl q_mute)), (ra 7, .inl (kI, 24, .inl q_late)), (ra 8, .inl (kI, 40, .inl q_from)), (ra 9, .inl (kI, 40, .inl q_to)), (ra 10, .inl (kI, 6, .inl q_goal)), (ra 14, .inl (kI, 12, .inl q_reach)), (ra 15, .inl (kJ, 24, .inr (.inl g83_12))), (ra 27, .inl (kI, 1019, .inl g83_13)), (ra 2, .inl (kI, 8, .inl q_told)), (m0, .inr (11, oX11 ra y83_0)), (ra 11, .inl (kI, 1019, .inl g83_10))] H := hP
            have hD : va_D A [(ra 3, .inl (kI, 24, .inl q_kind)), (ra 4, .inl (kI, 24, .inl q_salt)), (ra 5, .inl (kI, 24, .inl q_pace)), (ra 6, .inl (kI, 24, .inl q_mute)), (ra 7, .inl (kI, 24, .inl q_late)), (ra 8, .inl (kI, 40, .inl q_from)), (ra 9, .inl (kI, 40, .inl q_to)), (ra 10, .inl (kI, 6, .inl q_goal)), (ra 14, .inl (kI, 12, .inl q_reach)), (ra 15, .inl (kJ, 24, .inr (.inl g83_12))), (ra 27, .inl (kI, 1019, .inl g83_13)), (ra 2, .inl (kI, 8, .inl q_told)), (m0, .inr (11, oX11 ra y83_0)), (ra 11, .inl (kI, 1019, .inl g83_10))] := hD
            refine W.widen (k := 0) (n := 0) (Nat.le_of_ble_eq_true rfl) (Nat.le_of_ble_eq_true rfl) ?_
            refine lv_iload hx hb dX11_years_133 (lv_at hl 4 rfl) ?_
            refine lv_isub hx hb dX11_years_135 ?_
            refine lv_topi (fun z15 _ => ?_)
            refine lv_goto (tgt := 141) hx hb dX11_years_136 (by decide) ?_
            exact hJ141 y83_0 g83_10 g83_12 g83_13 v83_loc4 v83_loc5 v83_loc6 z15 _ _ _ (hI83_0) (hI83_10) (hI83_13) (h83_4) ((iv_w b12 (by decide) (by decide))) (h83_6) (hP.sub [12, 11, 0, 1, 2, 3, 4, 5, 6, 7, 13, 8, 9, 10] rfl) (hD.sub [12, 11, 0, 1, 2, 3, 4, 5, 6, 7, 13, 8, 9, 10] (by decide +kernel) rfl) hS (lv_sub hl [0, 1, 2, 3, 4, 5, 6] rfl)
        · have b16 : iv 0 0 p2 := iv_eqL c8 (iv_k (by decide) (by decide) : iv 0 0 0)
          refine lv_aload_n hx hb dX11_years_117 rfl (lv_at hl 0 rfl) ?_
          have hPc := hP.sub (ws' := [(m0, .inr (11, oX11 ra y83_0)), (ra 2, .inl (kI, 8, .inl q_told)), (ra 11, .inl (kI, 1019, .inl g83_10))]) [12, 13, 8] rfl
          have hDc := hD.sub (ws' := [(m0, .inr (11, oX11 ra y83_0)), (ra 2, .inl (kI, 8, .inl q_told)), (ra 11, .inl (kI, 1019, .inl g83_10))]) [12, 13, 8] (by decide +kernel) rfl
          have hFc := va_free (wc := [(m0, .inr (11, oX11 ra y83_0)), (ra 2, .inl (kI, 8, .inl q_told)), (ra 11, .inl (kI, 1019, .inl g83_10))]) hD hS hA [12, 13, 8] rfl
          refine va_calli (va_runV (As := []) (rest := []) ⟨hx, hb, hml, hown, hts⟩ (s11_edgesAll l dC dI kB kI kJ kZ kC kS H.size m0 ra y83_0 q_told g83_10 (hI83_0) (hq_told) (hI83_10)) (cwV 0 hts gX11_years_X11_edgesAll rfl rfl rfl (by decide +kernel) ⟨Nat.le_of_ble_eq_true rfl, Nat.le_of_ble_eq_true rfl⟩) ⟨fun a U g mk q => by obtain ⟨q0, q1, qP, qE, qD⟩ := q; exact ⟨q0, q1, qP, kE_call qE, qD⟩, va_recv hK hP (ci := 11) (q0 := 12) rfl rfl, fun U hU hW => ⟨rfl, by rw [hU], by rw [hU]; exact hPc, kE_warm hW hE, hDc.weaken (fun _ _ _ _ => trivial)⟩⟩ rfl rfl hl.1 rfl (lv_room (Nat.le_of_ble_eq_true rfl)) dX11_years_118 ⟨Nat.le_of_ble_eq_true rfl, Nat.le_of_ble_eq_true rfl⟩) hS (fun q _ h => hFc q h) hFc (fun r17 u t H1 locs ht hvm w18 hB hz1 hk1 hS => ?_)
          obtain ⟨hP1, hD1⟩ := hB
          rw [ht] at hP1
          try dsimp only at w18
          obtain ⟨hP, hD⟩ := va_join (wr := [(ra 3, .inl (kI, 24, .inl q_kind)), (ra 4, .inl (kI, 24, .inl q_salt)), (ra 5, .inl (kI, 24, .inl q_pace)), (ra 6, .inl (kI, 24, .inl q_mute)), (ra 7, .inl (kI, 24, .inl q_late)), (ra 8, .inl (kI, 40, .inl q_from)), (ra 9, .inl (kI, 40, .inl q_to)), (ra 10, .inl (kI, 6, .inl q_goal)), (ra 14, .inl (kI, 12, .inl q_reach)), (ra 15, .inl (kJ, 24, .inr (.inl g83_12))), (ra 27, .inl (kI, 1019, .inl g83_13))]) (w1 := [(m0, .inr (11, oX11 ra y83_0)), (ra 2, .inl (kI, 8, .inl q_told)), (ra 11, .inl (kI, 1019, .inl g83_10))]) hP hD [12, 13, 8] [0, 1, 2, 3, 4, 5, 6, 7, 9, 10, 11] rfl rfl (by decide +kernel) (by decide +kernel) hk1 hFc hP1 hD1
          generalize H1 = H at hP hS ⊢
          have hP : va_P (dC, dI) vwCl [(ra 3, .inl (kI, 24, .inl q_kind)), (ra 4, .inl (kI, 24, .inl q_salt)), (ra 5, .inl (kI, 24, .inl q_pace)), (ra 6, .inl (kI, 24, .inl q_mute)), (ra 7, .inl (kI, 24, .inl q_late)), (ra 8, .inl (kI, 40, .inl q_from)), (ra 9, .inl (kI, 40, .inl q_to)), (ra 10, .inl (kI, 6, .inl q_goal)), (ra 14, .inl (kI, 12, .inl q_reach)), (ra 15, .inl (kJ, 24, .inr (.inl g83_12))), (ra 27, .inl (kI, 1019, .inl g83_13)), (m0, .inr (11, oX11 ra y83_0)), (ra 2, .inl (kI, 8, .inl q_told)), (ra 11, .inl (kI, 1019, .inl g83_10))] H := hP
          have hD : va_D A [(ra 3, .inl (kI, 24, .inl q_kind)), (ra 4, .inl (kI, 24, .inl q_salt)), (ra 5, .inl (kI, 24, .inl q_pace)), (ra 6, .inl (kI, 24, .inl q_mute)), (ra 7, .inl (kI, 24, .inl q_late)), (ra 8, .inl (kI, 40, .inl q_from)), (ra 9, .inl (kI, 40, .inl q_to)), (ra 10, .inl (kI, 6, .inl q_goal)), (ra 14, .inl (kI, 12, .inl q_reach)), (ra 15, .inl (kJ, 24, .inr (.inl g83_12))), (ra 27, .inl (kI, 1019, .inl g83_13)), (m0, .inr (11, oX11 ra y83_0)), (ra 2, .inl (kI, 8, .inl q_told)), (ra 11, .inl (kI, 1019, .inl g83_10))] := hD
          refine W.widen (k := 0) (n := 0) (Nat.le_of_ble_eq_true rfl) (Nat.le_of_ble_eq_true rfl) ?_
          refine lv_goto (tgt := 141) hx hb dX11_years_121 (by decide) ?_
          exact hJ141 y83_0 g83_10 g83_12 g83_13 v83_loc4 v83_loc5 v83_loc6 r17 _ _ _ (hI83_0) (hI83_10) (hI83_13) (h83_4) ((iv_w b16 (by decide) (by decide))) (h83_6) (hP.sub [11, 12, 0, 1, 2, 3, 4, 5, 6, 7, 13, 8, 9, 10] rfl) (hD.sub [11, 12, 0, 1, 2, 3, 4, 5, 6, 7, 13, 8, 9, 10] (by decide +kernel) rfl) hS (lv_sub hl [0, 1, 2, 3, 4, 5, 6] rfl)
      · have b19 : iv 0 11 v83_loc6 := iv_ltL (Int32.not_le.mp c7) h83_6 (hq_told 0 : iv 0 12 (q_told 0)) (by decide) (by decide)
        have b20 : iv 1 12 (q_told 0) := iv_ltR (Int32.not_le.mp c7) h83_6 (hq_told 0 : iv 0 12 (q_told 0)) (by decide) (by decide)
        refine lv_iload hx hb dX11_years_92 (lv_at hl 5 rfl) ?_
        refine lv_aload_n hx hb dX11_years_94 rfl (lv_at hl 0 rfl) ?_
        refine va_get (D := (dC, dI)) (ci := 11) (v := .ref (ra 11)) (C := RX11) (T := TX11) (N := 61) hx hb hts hin11 hown hK hP 12 rfl rfl 12 (by decide) hw_0 (fun _ h9 => h9) rfl dX11_years_95 ?_
        refine lv_bipush (v := 12) hx hb dX11_years_98 (by decide) ?_
        refine lv_iload hx hb dX11_years_100 (lv_at hl 6 rfl) ?_
        refine lv_iadd hx hb dX11_years_102 ?_
        refine iv_top (a := 12) (b := 23) (iv_add (iv_k (by decide) (by decide) : iv 12 12 12) b19 (by decide) (by decide) (by decide) (by decide)) (fun z21 b22 => ?_)
        refine va_iald hx hb hK hP 8 1 rfl rfl (iv_in b22 (by decide) (by decide)) dX11_years_103 ?_
        refine lv_topi (fun z23 _ => ?_)
        refine lv_iadd hx hb dX11_years_104 ?_
        refine lv_topi (fun z24 _ => ?_)
        refine lv_istore (lv' := [(5, .int z24), (0, .ref m0), (1, .int p0), (2, .int p1), (3, .int p2), (4, .int v83_loc4), (6, .int v83_loc6)]) hx hb dX11_years_105 hl (by decide) rfl (fun ls hl => ?_)
        refine lv_iinc (v := v83_loc6 + Int32.ofInt 1) (lv' := [(6, .int (v83_loc6 + Int32.ofInt 1)), (5, .int z24), (0, .ref m0), (1, .int p0), (2, .int p1), (3, .int p2), (4, .int v83_loc4)]) hx hb dX11_years_107 hl (k := 6) rfl (rfl) (by decide) rfl (fun ls hl => ?_)
        have b25 : iv 1 12 (v83_loc6 + Int32.ofInt 1) := iv_add b19 (iv_k (by decide) (by decide) : iv 1 1 (Int32.ofInt 1)) (by decide) (by decide) (by decide) (by decide)
        refine lv_goto (tgt := 83) hx hb dX11_years_110 (by decide) ?_
        exact ih83 y83_0 g83_10 g83_12 g83_13 v83_loc4 z24 (v83_loc6 + Int32.ofInt 1) _ _ _ (ms_up (c := 1) (d := 0) b19 hm83 (by decide) (iv_inc 1 b19 (by decide) (by decide) (by decide) (by decide)) (by decide) rfl) (hI83_0) (hI83_10) (hI83_13) (h83_4) (h83_5) ((iv_w b25 (by decide) (by decide))) (hP.sub [12, 13, 0, 1, 2, 3, 4, 5, 6, 7, 8, 9, 10, 11] rfl) (hD.sub [12, 13, 0, 1, 2, 3, 4, 5, 6, 7, 8, 9, 10, 11] (by decide +kernel) rfl) hS (lv_sub hl [2, 3, 4, 5, 6, 1, 0] rfl)
  have hJ61 : ∀ (n : Nat) (y61_0 : Nat → Int32) (g61_10 : Nat → Int32) (g61_12 : Nat → Int64) (g61_13 : Nat → Int32) (v61_loc4 : Int32) (v61_loc5 : Int32) (H : Heap) (locs : List Loc) (ls : Array Slot), (40 - v61_loc5.toInt).toNat < n → fI lX11 hX11 y61_0 → fI lNow hNow g61_10 → fI lNow hNow g61_13 → iv 0 40 p1 → iv 0 2 p2 → iv 0 40 v61_loc5 → va_P (dC, dI) vwCl [(m0, .inr (11, oX11 ra y61_0)), (ra 2, .inl (kI, 8, .inl q_told)), (ra 3, .inl (kI, 24, .inl q_kind)), (ra 4, .inl (kI, 24, .inl q_salt)), (ra 5, .inl (kI, 24, .inl q_pace)), (ra 6, .inl (kI, 24, .inl q_mute)), (ra 7, .inl (kI, 24, .inl q_late)), (ra 8, .inl (kI, 40, .inl q_from)), (ra 9, .inl (kI, 40, .inl q_to)), (ra 10, .inl (kI, 6, .inl q_goal)), (ra 11, .inl (kI, 1019, .inl g61_10)), (ra 14, .inl (kI, 12, .inl q_reach)), (ra 15, .inl (kJ, 24, .inr (.inl g61_12))), (ra 27, .inl (kI, 1019, .inl g61_13))] H → va_D A [(m0, .inr (11, oX11 ra y61_0)), (ra 2, .inl (kI, 8, .inl q_told)), (ra 3, .inl (kI, 24, .inl q_kind)), (ra 4, .inl (kI, 24, .inl q_salt)), (ra 5, .inl (kI, 24, .inl q_pace)), (ra 6, .inl (kI, 24, .inl q_mute)), (ra 7, .inl (kI, 24, .inl q_late)), (ra 8, .inl (kI, 40, .inl q_from)), (ra 9, .inl (kI, 40, .inl q_to)), (ra 10, .inl (kI, 6, .inl q_goal)), (ra 11, .inl (kI, 1019, .inl g61_10)), (ra 14, .inl (kI, 12, .inl q_reach)), (ra 15, .inl (kJ, 24, .inr (.inl g61_12))), (ra 27, .inl (kI, 1019, .inl g61_13))] → va_S A s.heap H locs → lv_has ls 7 [(0, .ref m0), (1, .int p0), (2, .int p1), (3, .int p2), (4, .int v61_loc4), (5, .int v61_loc5)] → W p l e (headSpec wsX11_years rm_s11_years).room s m args0 below meth c H locs (0) (0) (MQ below (va_Qi (fun (r : Int32) (_ : Unit) => True) (fun _ t => ∃ (x0' : Nat → Int32) (q_now' : Nat → Int32) (q_met' : Nat → Int64) (q_rowThen' : Nat → Int32), fI lX11 hX11 x0' ∧ fI lNow hNow q_now' ∧ fI lNow hNow q_rowThen' ∧ va_P (dC, dI) vwCl [(m0, .inr (11, oX11 ra x0')), (ra 2, .inl (kI, 8, .inl q_told)), (ra 3, .inl (kI, 24, .inl q_kind)), (ra 4, .inl (kI, 24, .inl q_salt)), (ra 5, .inl (kI, 24, .inl q_pace)), (ra 6, .inl (kI, 24, .inl q_mute)), (ra 7, .inl (kI, 24, .inl q_late)), (ra 8, .inl (kI, 40, .inl q_from)), (ra 9, .inl (kI, 40, .inl q_to)), (ra 10, .inl (kI, 6, .inl q_goal)), (ra 11, .inl (kI, 1019, .inl q_now')), (ra 14, .inl (kI, 12, .inl q_reach)), (ra 15, .inl (kJ, 24, .inr (.inl q_met'))), (ra 27, .inl (kI, 1019, .inl q_rowThen'))] t.heap ∧ va_D A [(m0, .inr (11, oX11 ra x0')), (ra 2, .inl (kI, 8, .inl q_told)), (ra 3, .inl (kI, 24, .inl q_kind)), (ra 4, .inl (kI, 24, .inl q_salt)), (ra 5, .inl (kI, 24, .inl q_pace)), (ra 6, .inl (kI, 24, .inl q_mute)), (ra 7, .inl (kI, 24, .inl q_late)), (ra 8, .inl (kI, 40, .inl q_from)), (ra 9, .inl (kI, 40, .inl q_to)), (ra 10, .inl (kI, 6, .inl q_goal)), (ra 11, .inl (kI, 1019, .inl q_now')), (ra 14, .inl (kI, 12, .inl q_reach)), (ra 15, .inl (kJ, 24, .inr (.inl q_met'))), (ra 27, .inl (kI, 1019, .inl q_rowThen'))]) A) args0 s 0 0 A) (F0 m 61 ls []) := by
    intro n
    induction n with
    | zero => intro y61_0 g61_10 g61_12 g61_13 v61_loc4 v61_loc5 H locs ls hm61; exact absurd hm61 (Nat.not_lt_zero _)
    | succ n ih61 =>
      intro y61_0 g61_10 g61_12 g61_13 v61_loc4 v61_loc5 H locs ls hm61 hI61_0 hI61_10 hI61_13 h61_4 h61_5 h61_6 hP hD hS hl
      refine lv_iload hx hb dX11_years_61 (lv_at hl 5 rfl) ?_
      refine lv_iload_n hx hb dX11_years_63 rfl (lv_at hl 2 rfl) ?_
      refine lv_icmp_ge (tgt := 77) hx hb dX11_years_64 (by decide) (fun c26 => ?_) (fun c26 => ?_)
      · refine lv_iconst (v := 0) hx hb dX11_years_77 (by decide) ?_
        refine lv_istore (lv' := [(5, .int 0), (0, .ref m0), (1, .int p0), (2, .int p1), (3, .int p2), (4, .int v61_loc4)]) hx hb dX11_years_78 hl (by decide) rfl (fun ls hl => ?_)
        refine lv_iconst (v := 0) hx hb dX11_years_80 (by decide) ?_
        refine lv_istore (lv' := [(6, .int 0), (5, .int 0), (0, .ref m0), (1, .int p0), (2, .int p1), (3, .int p2), (4, .int v61_loc4)]) hx hb dX11_years_81 hl (by decide) rfl (fun ls hl => ?_)
        exact hJ83 _ y61_0 g61_10 g61_12 g61_13 v61_loc4 0 0 _ _ _ (Nat.lt_succ_self _) (hI61_0) (hI61_10) (hI61_13) (h61_4) (h61_5) ((iv_w (iv_k (by decide) (by decide) : iv 0 0 0) (by decide) (by decide))) (hP.sub [0, 1, 2, 3, 4, 5, 6, 7, 8, 9, 10, 11, 12, 13] rfl) (hD.sub [0, 1, 2, 3, 4, 5, 6, 7, 8, 9, 10, 11, 12, 13] (by decide +kernel) rfl) hS (lv_sub hl [2, 3, 4, 5, 6, 1, 0] rfl)
      · have b27 : iv 0 39 v61_loc5 := iv_ltL (Int32.not_le.mp c26) h61_6 h61_4 (by decide) (by decide)
        have b28 : iv 1 40 p1 := iv_ltR (Int32.not_le.mp c26) h61_6 h61_4 (by decide) (by decide)
        refine lv_aload_n hx hb dX11_years_67 rfl (lv_at hl 0 rfl) ?_
        have hPc := hP.sub (ws' := [(m0, .inr (11, oX11 ra y61_0)), (ra 2, .inl (kI, 8, .inl q_told)), (ra 3, .inl (kI, 24, .inl q_kind)), (ra 4, .inl (kI, 24, .inl q_salt)), (ra 5, .inl (kI, 24, .inl q_pace)), (ra 6, .inl (kI, 24, .inl q_mute)), (ra 7, .inl (kI, 24, .inl q_late)), (ra 8, .inl (kI, 40, .inl q_from)), (ra 9, .inl (kI, 40, .inl q_to)), (ra 10, .inl (kI, 6, .inl q_goal)), (ra 11, .inl (kI, 1019, .inl g61_10)), (ra 14, .inl (kI, 12, .inl q_reach)), (ra 15, .inl (kJ, 24, .inr (.inl g61_12)))]) [0, 1, 2, 3, 4, 5, 6, 7, 8, 9, 10, 11, 12] rfl
        have hDc := hD.sub (ws' := [(m0, .inr (11, oX11 ra y61_0)), (ra 2, .inl (kI, 8, .inl q_told)), (ra 3, .inl (kI, 24, .inl q_kind)), (ra 4, .inl (kI, 24, .inl q_salt)), (ra 5, .inl (kI, 24, .inl q_pace)), (ra 6, .inl (kI, 24, .inl q_mute)), (ra 7, .inl (kI, 24, .inl q_late)), (ra 8, .inl (kI, 40, .inl q_from)), (ra 9, .inl (kI, 40, .inl q_to)), (ra 10, .inl (kI, 6, .inl q_goal)), (ra 11, .inl (kI, 1019, .inl g61_10)), (ra 14, .inl (kI, 12, .inl q_reach)), (ra 15, .inl (kJ, 24, .inr (.inl g61_12)))]) [0, 1, 2, 3, 4, 5, 6, 7, 8, 9, 10, 11, 12] (by decide +kernel) rfl
        have hFc := va_free (wc := [(m0, .inr (11, oX11 ra y61_0)), (ra 2, .inl (kI, 8, .inl q_told)), (ra 3, .inl (kI, 24, .inl q_kind)), (ra 4, .inl (kI, 24, .inl q_salt)), (ra 5, .inl (kI, 24, .inl q_pace)), (ra 6, .inl (kI, 24, .inl q_mute)), (ra 7, .inl (kI, 24, .inl q_late)), (ra 8, .inl (kI, 40, .inl q_from)), (ra 9, .inl (kI, 40, .inl q_to)), (ra 10, .inl (kI, 6, .inl q_goal)), (ra 11, .inl (kI, 1019, .inl g61_10)), (ra 14, .inl (kI, 12, .inl q_reach)), (ra 15, .inl (kJ, 24, .inr (.inl g61_12)))]) hD hS hA [0, 1, 2, 3, 4, 5, 6, 7, 8, 9, 10, 11, 12] rfl
        refine va_callv (va_runV (As := []) (rest := []) ⟨hx, hb, hml, hown, hts⟩ (s11_happens l dC dI kB kI kJ kZ kC kS H.size m0 ra y61_0 q_told q_kind q_salt q_pace q_mute q_late q_from q_to q_goal g61_10 q_reach g61_12 (hI61_0) (hq_told) (hq_salt) (hq_from) (hq_to) (hq_goal) (hI61_10) (hLT)) (cwV 0 hts gX11_years_X11_happens rfl rfl rfl (by decide +kernel) ⟨Nat.le_of_ble_eq_true rfl, Nat.le_of_ble_eq_true rfl⟩) ⟨fun a U g mk q => by obtain ⟨q0, q1, qP, qE, qD⟩ := q; exact ⟨q0, q1, qP, kE_call qE, qD⟩, va_recv hK hP (ci := 11) (q0 := 0) rfl rfl, fun U hU hW => ⟨rfl, by rw [hU], by rw [hU]; exact hPc, kE_warm hW hE, hDc.weaken (fun _ _ _ _ => trivial)⟩⟩ rfl rfl hl.1 rfl (lv_room (Nat.le_of_ble_eq_true rfl)) dX11_years_68 ⟨Nat.le_of_ble_eq_true rfl, Nat.le_of_ble_eq_true rfl⟩) hS (fun q _ h => hFc q h) hFc (fun u t H1 locs ht hvm w30 hB hz1 hk1 hS => ?_)
        obtain ⟨y31, f32, f33, hq34, hq35, hP1, hD1⟩ := hB
        rw [ht] at hP1
        try dsimp only at w30
        obtain ⟨hP, hD⟩ := va_join (wr := [(ra 27, .inl (kI, 1019, .inl g61_13))]) (w1 := [(m0, .inr (11, oX11 ra y31)), (ra 2, .inl (kI, 8, .inl q_told)), (ra 3, .inl (kI, 24, .inl q_kind)), (ra 4, .inl (kI, 24, .inl q_salt)), (ra 5, .inl (kI, 24, .inl q_pace)), (ra 6, .inl (kI, 24, .inl q_mute)), (ra 7, .inl (kI, 24, .inl q_late)), (ra 8, .inl (kI, 40, .inl q_from)), (ra 9, .inl (kI, 40, .inl q_to)), (ra 10, .inl (kI, 6, .inl q_goal)), (ra 11, .inl (kI, 1019, .inl f32)), (ra 14, .inl (kI, 12, .inl q_reach)), (ra 15, .inl (kJ, 24, .inr (.inl f33)))]) hP hD [0, 1, 2, 3, 4, 5, 6, 7, 8, 9, 10, 11, 12] [13] rfl rfl (by decide +kernel) (by decide +kernel) hk1 hFc hP1 hD1
        generalize H1 = H at hP hS ⊢
        have hP : va_P (dC, dI) vwCl [(ra 27, .inl (kI, 1019, .inl g61_13)), (m0, .inr (11, oX11 ra y31)), (ra 2, .inl (kI, 8, .inl q_told)), (ra 3, .inl (kI, 24, .inl q_kind)), (ra 4, .inl (kI, 24, .inl q_salt)), (ra 5, .inl (kI, 24, .inl q_pace)), (ra 6, .inl (kI, 24, .inl q_mute)), (ra 7, .inl (kI, 24, .inl q_late)), (ra 8, .inl (kI, 40, .inl q_from)), (ra 9, .inl (kI, 40, .inl q_to)), (ra 10, .inl (kI, 6, .inl q_goal)), (ra 11, .inl (kI, 1019, .inl f32)), (ra 14, .inl (kI, 12, .inl q_reach)), (ra 15, .inl (kJ, 24, .inr (.inl f33)))] H := hP
        have hD : va_D A [(ra 27, .inl (kI, 1019, .inl g61_13)), (m0, .inr (11, oX11 ra y31)), (ra 2, .inl (kI, 8, .inl q_told)), (ra 3, .inl (kI, 24, .inl q_kind)), (ra 4, .inl (kI, 24, .inl q_salt)), (ra 5, .inl (kI, 24, .inl q_pace)), (ra 6, .inl (kI, 24, .inl q_mute)), (ra 7, .inl (kI, 24, .inl q_late)), (ra 8, .inl (kI, 40, .inl q_from)), (ra 9, .inl (kI, 40, .inl q_to)), (ra 10, .inl (kI, 6, .inl q_goal)), (ra 11, .inl (kI, 1019, .inl f32)), (ra 14, .inl (kI, 12, .inl q_reach)), (ra 15, .inl (kJ, 24, .inr (.inl f33)))] := hD
        refine W.widen (k := 0) (n := 0) (Nat.le_of_ble_eq_true rfl) (Nat.le_of_ble_eq_true rfl) ?_
        refine lv_iinc (v := v61_loc5 + Int32.ofInt 1) (lv' := [(5, .int (v61_loc5 + Int32.ofInt 1)), (0, .ref m0), (1, .int p0), (2, .int p1), (3, .int p2), (4, .int v61_loc4)]) hx hb dX11_years_71 hl (k := 5) rfl (rfl) (by decide) rfl (fun ls hl => ?_)
        have b36 : iv 1 40 (v61_loc5 + Int32.ofInt 1) := iv_add b27 (iv_k (by decide) (by decide) : iv 1 1 (Int32.ofInt 1)) (by decide) (by decide) (by decide) (by decide)
        refine lv_goto (tgt := 61) hx hb dX11_years_74 (by decide) ?_
        exact ih61 y31 f32 f33 g61_13 v61_loc4 (v61_loc5 + Int32.ofInt 1) _ _ _ (ms_up (c := 1) (d := 0) b27 hm61 (by decide) (iv_inc 1 b27 (by decide) (by decide) (by decide) (by decide)) (by decide) rfl) (hq34) (hq35) (hI61_13) ((iv_w b28 (by decide) (by decide))) (h61_5) ((iv_w b36 (by decide) (by decide))) (hP.sub [1, 2, 3, 4, 5, 6, 7, 8, 9, 10, 11, 12, 13, 0] rfl) (hD.sub [1, 2, 3, 4, 5, 6, 7, 8, 9, 10, 11, 12, 13, 0] (by decide +kernel) rfl) hS (lv_sub hl [1, 2, 3, 4, 5, 0] rfl)
  refine lv_aload_n hx hb dX11_years_0 rfl (lv_at hl 0 rfl) ?_
  refine lv_iconst (v := 0) hx hb dX11_years_1 (by decide) ?_
  refine va_put (D := (dC, dI)) (ci := 11) (v := .int 0) (ty := .int) (C := RX11) (T := TX11) (N := 61) hx hb hts hin11 tyX11 tyX11_ok nmX11 hown hK hP hD hS 0 rfl rfl 2 (by decide) hw_2 (fun _ h9 => h9) rfl (by decide +kernel) rfl rfl (Nat.le_of_ble_eq_true rfl) dX11_years_2 (fun H locs hP hD hS => ?_)
  have hP : va_P (dC, dI) vwCl [(m0, .inr (11, oX11 ra (upd x0 0 0))), (ra 2, .inl (kI, 8, .inl q_told)), (ra 3, .inl (kI, 24, .inl q_kind)), (ra 4, .inl (kI, 24, .inl q_salt)), (ra 5, .inl (kI, 24, .inl q_pace)), (ra 6, .inl (kI, 24, .inl q_mute)), (ra 7, .inl (kI, 24, .inl q_late)), (ra 8, .inl (kI, 40, .inl q_from)), (ra 9, .inl (kI, 40, .inl q_to)), (ra 10, .inl (kI, 6, .inl q_goal)), (ra 11, .inl (kI, 1019, .inl q_now)), (ra 14, .inl (kI, 12, .inl q_reach)), (ra 15, .inl (kJ, 24, .inr (.inl q_met))), (ra 27, .inl (kI, 1019, .inl q_rowThen))] H := hP
  have hD : va_D A [(m0, .inr (11, oX11 ra (upd x0 0 0))), (ra 2, .inl (kI, 8, .inl q_told)), (ra 3, .inl (kI, 24, .inl q_kind)), (ra 4, .inl (kI, 24, .inl q_salt)), (ra 5, .inl (kI, 24, .inl q_pace)), (ra 6, .inl (kI, 24, .inl q_mute)), (ra 7, .inl (kI, 24, .inl q_late)), (ra 8, .inl (kI, 40, .inl q_from)), (ra 9, .inl (kI, 40, .inl q_to)), (ra 10, .inl (kI, 6, .inl q_goal)), (ra 11, .inl (kI, 1019, .inl q_now)), (ra 14, .inl (kI, 12, .inl q_reach)), (ra 15, .inl (kJ, 24, .inr (.inl q_met))), (ra 27, .inl (kI, 1019, .inl q_rowThen))] := hD
  refine lv_iload_n hx hb dX11_years_5 rfl (lv_at hl 3 rfl) ?_
  refine lv_iconst (v := 0) hx hb dX11_years_6 (by decide) ?_
  refine lv_iconst (v := 2) hx hb dX11_years_7 (by decide) ?_
  have hPc := hP.sub (ws' := []) [] rfl
  have hDc := hD.sub (ws' := []) [] (by decide +kernel) rfl
  have hFc := va_free (wc := []) hD hS hA [] rfl
  refine va_calli (va_runS (As := [.int p2, .int 0, .int 2]) (rest := []) ⟨hx, hb, hml, hown, hts⟩ (s11_isIn l dC dI kB kI kJ kZ kC kS H.size p2 0 2) (va_cwS 3 hts gX11_years_X11_isIn rfl rfl rfl (by decide +kernel) ⟨Nat.le_of_ble_eq_true rfl, Nat.le_of_ble_eq_true rfl⟩) ⟨fun a U g mk q => by obtain ⟨q0, q1, qP, qE, qD⟩ := q; exact ⟨q0, q1, qP, kE_call qE, qD⟩, fun U hU hW => ⟨rfl, by rw [hU], by rw [hU]; exact hPc, kE_warm hW hE, hDc.weaken (fun _ _ _ _ => trivial)⟩⟩ rfl rfl hl.1 rfl (lv_room (Nat.le_of_ble_eq_true rfl)) dX11_years_8 ⟨Nat.le_of_ble_eq_true rfl, Nat.le_of_ble_eq_true rfl⟩) hS (fun q _ h => hFc q h) hFc (fun r37 u t H1 locs ht hvm w38 hB hz1 hk1 hS => ?_)
  obtain ⟨hP1, hD1⟩ := hB
  rw [ht] at hP1
  try dsimp only at w38
  obtain ⟨hP, hD⟩ := va_join (wr := [(m0, .inr (11, oX11 ra (upd x0 0 0))), (ra 2, .inl (kI, 8, .inl q_told)), (ra 3, .inl (kI, 24, .inl q_kind)), (ra 4, .inl (kI, 24, .inl q_salt)), (ra 5, .inl (kI, 24, .inl q_pace)), (ra 6, .inl (kI, 24, .inl q_mute)), (ra 7, .inl (kI, 24, .inl q_late)), (ra 8, .inl (kI, 40, .inl q_from)), (ra 9, .inl (kI, 40, .inl q_to)), (ra 10, .inl (kI, 6, .inl q_goal)), (ra 11, .inl (kI, 1019, .inl q_now)), (ra 14, .inl (kI, 12, .inl q_reach)), (ra 15, .inl (kJ, 24, .inr (.inl q_met))), (ra 27, .inl (kI, 1019, .inl q_rowThen))]) (w1 := []) hP hD [] [0, 1, 2, 3, 4, 5, 6, 7, 8, 9, 10, 11, 12, 13] rfl rfl (by decide +kernel) (by decide +kernel) hk1 hFc hP1 hD1
  generalize H1 = H at hP hS ⊢
  have hP : va_P (dC, dI) vwCl [(m0, .inr (11, oX11 ra (upd x0 0 0))), (ra 2, .inl (kI, 8, .inl q_told)), (ra 3, .inl (kI, 24, .inl q_kind)), (ra 4, .inl (kI, 24, .inl q_salt)), (ra 5, .inl (kI, 24, .inl q_pace)), (ra 6, .inl (kI, 24, .inl q_mute)), (ra 7, .inl (kI, 24, .inl q_late)), (ra 8, .inl (kI, 40, .inl q_from)), (ra 9, .inl (kI, 40, .inl q_to)), (ra 10, .inl (kI, 6, .inl q_goal)), (ra 11, .inl (kI, 1019, .inl q_now)), (ra 14, .inl (kI, 12, .inl q_reach)), (ra 15, .inl (kJ, 24, .inr (.inl q_met))), (ra 27, .inl (kI, 1019, .inl q_rowThen))] H := hP
  have hD : va_D A [(m0, .inr (11, oX11 ra (upd x0 0 0))), (ra 2, .inl (kI, 8, .inl q_told)), (ra 3, .inl (kI, 24, .inl q_kind)), (ra 4, .inl (kI, 24, .inl q_salt)), (ra 5, .inl (kI, 24, .inl q_pace)), (ra 6, .inl (kI, 24, .inl q_mute)), (ra 7, .inl (kI, 24, .inl q_late)), (ra 8, .inl (kI, 40, .inl q_from)), (ra 9, .inl (kI, 40, .inl q_to)), (ra 10, .inl (kI, 6, .inl q_goal)), (ra 11, .inl (kI, 1019, .inl q_now)), (ra 14, .inl (kI, 12, .inl q_reach)), (ra 15, .inl (kJ, 24, .inr (.inl q_met))), (ra 27, .inl (kI, 1019, .inl q_rowThen))] := hD
  refine W.widen (k := 0) (n := 0) (Nat.le_of_ble_eq_true rfl) (Nat.le_of_ble_eq_true rfl) ?_
  refine lv_if_ne (tgt := 20) hx hb dX11_years_11 (by decide) (fun c39 => ?_) (fun c39 => ?_)
  · have b40 : iv 1 1 r37 := iv_neLo c39 w38.1 (iv_k (by decide) (by decide) : iv 0 0 0) (by decide) (by decide)
    have hr41 := (w38.2).resolve_left (iv_ne b40 (iv_k (by decide) (by decide) : iv 0 0 0) (by decide))
    have b42 : iv 0 2 p2 := iv_cap (in_iv hr41 (iv_k (by decide) (by decide) : iv 0 0 0) (iv_k (by decide) (by decide) : iv 2 2 2)) (iv_t p2) (by decide) (by decide)
    refine lv_iload_n hx hb dX11_years_20 rfl (lv_at hl 2 rfl) ?_
    refine lv_iconst (v := 0) hx hb dX11_years_21 (by decide) ?_
    refine lv_bipush (v := 40) hx hb dX11_years_22 (by decide) ?_
    have hPc := hP.sub (ws' := []) [] rfl
    have hDc := hD.sub (ws' := []) [] (by decide +kernel) rfl
    have hFc := va_free (wc := []) hD hS hA [] rfl
    refine va_calli (va_runS (As := [.int p1, .int 0, .int 40]) (rest := []) ⟨hx, hb, hml, hown, hts⟩ (s11_isIn l dC dI kB kI kJ kZ kC kS H.size p1 0 40) (va_cwS 3 hts gX11_years_X11_isIn rfl rfl rfl (by decide +kernel) ⟨Nat.le_of_ble_eq_true rfl, Nat.le_of_ble_eq_true rfl⟩) ⟨fun a U g mk q => by obtain ⟨q0, q1, qP, qE, qD⟩ := q; exact ⟨q0, q1, qP, kE_call qE, qD⟩, fun U hU hW => ⟨rfl, by rw [hU], by rw [hU]; exact hPc, kE_warm hW hE, hDc.weaken (fun _ _ _ _ => trivial)⟩⟩ rfl rfl hl.1 rfl (lv_room (Nat.le_of_ble_eq_true rfl)) dX11_years_24 ⟨Nat.le_of_ble_eq_true rfl, Nat.le_of_ble_eq_true rfl⟩) hS (fun q _ h => hFc q h) hFc (fun r43 u t H1 locs ht hvm w44 hB hz1 hk1 hS => ?_)
    obtain ⟨hP1, hD1⟩ := hB
    rw [ht] at hP1
    try dsimp only at w44
    obtain ⟨hP, hD⟩ := va_join (wr := [(m0, .inr (11, oX11 ra (upd x0 0 0))), (ra 2, .inl (kI, 8, .inl q_told)), (ra 3, .inl (kI, 24, .inl q_kind)), (ra 4, .inl (kI, 24, .inl q_salt)), (ra 5, .inl (kI, 24, .inl q_pace)), (ra 6, .inl (kI, 24, .inl q_mute)), (ra 7, .inl (kI, 24, .inl q_late)), (ra 8, .inl (kI, 40, .inl q_from)), (ra 9, .inl (kI, 40, .inl q_to)), (ra 10, .inl (kI, 6, .inl q_goal)), (ra 11, .inl (kI, 1019, .inl q_now)), (ra 14, .inl (kI, 12, .inl q_reach)), (ra 15, .inl (kJ, 24, .inr (.inl q_met))), (ra 27, .inl (kI, 1019, .inl q_rowThen))]) (w1 := []) hP hD [] [0, 1, 2, 3, 4, 5, 6, 7, 8, 9, 10, 11, 12, 13] rfl rfl (by decide +kernel) (by decide +kernel) hk1 hFc hP1 hD1
    generalize H1 = H at hP hS ⊢
    have hP : va_P (dC, dI) vwCl [(m0, .inr (11, oX11 ra (upd x0 0 0))), (ra 2, .inl (kI, 8, .inl q_told)), (ra 3, .inl (kI, 24, .inl q_kind)), (ra 4, .inl (kI, 24, .inl q_salt)), (ra 5, .inl (kI, 24, .inl q_pace)), (ra 6, .inl (kI, 24, .inl q_mute)), (ra 7, .inl (kI, 24, .inl q_late)), (ra 8, .inl (kI, 40, .inl q_from)), (ra 9, .inl (kI, 40, .inl q_to)), (ra 10, .inl (kI, 6, .inl q_goal)), (ra 11, .inl (kI, 1019, .inl q_now)), (ra 14, .inl (kI, 12, .inl q_reach)), (ra 15, .inl (kJ, 24, .inr (.inl q_met))), (ra 27, .inl (kI, 1019, .inl q_rowThen))] H := hP
    have hD : va_D A [(m0, .inr (11, oX11 ra (upd x0 0 0))), (ra 2, .inl (kI, 8, .inl q_told)), (ra 3, .inl (kI, 24, .inl q_kind)), (ra 4, .inl (kI, 24, .inl q_salt)), (ra 5, .inl (kI, 24, .inl q_pace)), (ra 6, .inl (kI, 24, .inl q_mute)), (ra 7, .inl (kI, 24, .inl q_late)), (ra 8, .inl (kI, 40, .inl q_from)), (ra 9, .inl (kI, 40, .inl q_to)), (ra 10, .inl (kI, 6, .inl q_goal)), (ra 11, .inl (kI, 1019, .inl q_now)), (ra 14, .inl (kI, 12, .inl q_reach)), (ra 15, .inl (kJ, 24, .inr (.inl q_met))), (ra 27, .inl (kI, 1019, .inl q_rowThen))] := hD
    refine W.widen (k := 0) (n := 0) (Nat.le_of_ble_eq_true rfl) (Nat.le_of_ble_eq_true rfl) ?_
    refine lv_if_ne (tgt := 36) hx hb dX11_years_27 (by decide) (fun c45 => ?_) (fun c45 => ?_)
    · have b46 : iv 1 1 r43 := iv_neLo c45 w44.1 (iv_k (by decide) (by decide) : iv 0 0 0) (by decide) (by decide)
      have hr47 := (w44.2).resolve_left (iv_ne b46 (iv_k (by decide) (by decide) : iv 0 0 0) (by decide))
      have b48 : iv 0 40 p1 := iv_cap (in_iv hr47 (iv_k (by decide) (by decide) : iv 0 0 0) (iv_k (by decide) (by decide) : iv 40 40 40)) (iv_t p1) (by decide) (by decide)
      refine lv_aload_n hx hb dX11_years_36 rfl (lv_at hl 0 rfl) ?_
      refine va_get (D := (dC, dI)) (ci := 11) (v := .ref (ra 27)) (C := RX11) (T := TX11) (N := 61) hx hb hts hin11 hown hK hP 0 rfl rfl 50 (by decide) hw_1 (fun _ h9 => h9) rfl dX11_years_37 ?_
      refine lv_aload_n hx hb dX11_years_40 rfl (lv_at hl 0 rfl) ?_
      refine va_get (D := (dC, dI)) (ci := 11) (v := .ref (ra 11)) (C := RX11) (T := TX11) (N := 61) hx hb hts hin11 hown hK hP 0 rfl rfl 12 (by decide) hw_0 (fun _ h9 => h9) rfl dX11_years_41 ?_
      have hPc := hP.sub (ws' := [(ra 27, .inl (kI, 1019, .inl q_rowThen)), (ra 11, .inl (kI, 1019, .inl q_now))]) [13, 10] rfl
      have hDc := hD.sub (ws' := [(ra 27, .inl (kI, 1019, .inl q_rowThen)), (ra 11, .inl (kI, 1019, .inl q_now))]) [13, 10] (by decide +kernel) rfl
      have hFc := va_free (wc := [(ra 27, .inl (kI, 1019, .inl q_rowThen)), (ra 11, .inl (kI, 1019, .inl q_now))]) hD hS hA [13, 10] rfl
      refine va_callv (va_runS (As := [.ref (ra 27), .ref (ra 11)]) (rest := []) ⟨hx, hb, hml, hown, hts⟩ (s11_copyTo_now l dC dI kB kI kJ kZ kC kS H.size (ra 27) (ra 11) q_rowThen q_now (hq_rowThen) (hq_now)) (va_cwS 2 hts gX11_years_X11_copyTo rfl rfl rfl (by decide +kernel) ⟨Nat.le_of_ble_eq_true rfl, Nat.le_of_ble_eq_true rfl⟩) ⟨fun a U g mk q => by obtain ⟨q0, q1, qP, qE, qD⟩ := q; exact ⟨q0, q1, qP, kE_call qE, qD⟩, fun U hU hW => ⟨rfl, by rw [hU], by rw [hU]; exact hPc, kE_warm hW hE, hDc.weaken (fun _ _ _ _ => trivial)⟩⟩ rfl rfl hl.1 rfl (lv_room (Nat.le_of_ble_eq_true rfl)) dX11_years_44 ⟨Nat.le_of_ble_eq_true rfl, Nat.le_of_ble_eq_true rfl⟩) hS (fun q _ h => hFc q h) hFc (fun u t H1 locs ht hvm w50 hB hz1 hk1 hS => ?_)
      obtain ⟨f51, hq52, hP1, hD1⟩ := hB
      rw [ht] at hP1
      try dsimp only at w50
      obtain ⟨hP, hD⟩ := va_join (wr := [(m0, .inr (11, oX11 ra (upd x0 0 0))), (ra 2, .inl (kI, 8, .inl q_told)), (ra 3, .inl (kI, 24, .inl q_kind)), (ra 4, .inl (kI, 24, .inl q_salt)), (ra 5, .inl (kI, 24, .inl q_pace)), (ra 6, .inl (kI, 24, .inl q_mute)), (ra 7, .inl (kI, 24, .inl q_late)), (ra 8, .inl (kI, 40, .inl q_from)), (ra 9, .inl (kI, 40, .inl q_to)), (ra 10, .inl (kI, 6, .inl q_goal)), (ra 14, .inl (kI, 12, .inl q_reach)), (ra 15, .inl (kJ, 24, .inr (.inl q_met)))]) (w1 := [(ra 27, .inl (kI, 1019, .inl f51)), (ra 11, .inl (kI, 1019, .inl q_now))]) hP hD [13, 10] [0, 1, 2, 3, 4, 5, 6, 7, 8, 9, 11, 12] rfl rfl (by decide +kernel) (by decide +kernel) hk1 hFc hP1 hD1
      generalize H1 = H at hP hS ⊢
      have hP : va_P (dC, dI) vwCl [(m0, .inr (11, oX11 ra (upd x0 0 0))), (ra 2, .inl (kI, 8, .inl q_told)), (ra 3, .inl (kI, 24, .inl q_kind)), (ra 4, .inl (kI, 24, .inl q_salt)), (ra 5, .inl (kI, 24, .inl q_pace)), (ra 6, .inl (kI, 24, .inl q_mute)), (ra 7, .inl (kI, 24, .inl q_late)), (ra 8, .inl (kI, 40, .inl q_from)), (ra 9, .inl (kI, 40, .inl q_to)), (ra 10, .inl (kI, 6, .inl q_goal)), (ra 14, .inl (kI, 12, .inl q_reach)), (ra 15, .inl (kJ, 24, .inr (.inl q_met))), (ra 27, .inl (kI, 1019, .inl f51)), (ra 11, .inl (kI, 1019, .inl q_now))] H := hP
      have hD : va_D A [(m0, .inr (11, oX11 ra (upd x0 0 0))), (ra 2, .inl (kI, 8, .inl q_told)), (ra 3, .inl (kI, 24, .inl q_kind)), (ra 4, .inl (kI, 24, .inl q_salt)), (ra 5, .inl (kI, 24, .inl q_pace)), (ra 6, .inl (kI, 24, .inl q_mute)), (ra 7, .inl (kI, 24, .inl q_late)), (ra 8, .inl (kI, 40, .inl q_from)), (ra 9, .inl (kI, 40, .inl q_to)), (ra 10, .inl (kI, 6, .inl q_goal)), (ra 14, .inl (kI, 12, .inl q_reach)), (ra 15, .inl (kJ, 24, .inr (.inl q_met))), (ra 27, .inl (kI, 1019, .inl f51)), (ra 11, .inl (kI, 1019, .inl q_now))] := hD
      refine W.widen (k := 0) (n := 0) (Nat.le_of_ble_eq_true rfl) (Nat.le_of_ble_eq_true rfl) ?_
      refine lv_aload_n hx hb dX11_years_47 rfl (lv_at hl 0 rfl) ?_
      have hPc := hP.sub (ws' := [(m0, .inr (11, oX11 ra (upd x0 0 0))), (ra 11, .inl (kI, 1019, .inl q_now))]) [0, 13] rfl
      have hDc := hD.sub (ws' := [(m0, .inr (11, oX11 ra (upd x0 0 0))), (ra 11, .inl (kI, 1019, .inl q_now))]) [0, 13] (by decide +kernel) rfl
      have hFc := va_free (wc := [(m0, .inr (11, oX11 ra (upd x0 0 0))), (ra 11, .inl (kI, 1019, .inl q_now))]) hD hS hA [0, 13] rfl
      refine va_calli (va_runV (As := []) (rest := []) ⟨hx, hb, hml, hown, hts⟩ (s11_sentAll l dC dI kB kI kJ kZ kC kS H.size m0 ra (upd x0 0 0) q_now ((fI_u hX (k := 0) ((iv_w (iv_k (by decide) (by decide) : iv 0 0 0) (by decide) (by decide))))) (hq_now)) (cwV 0 hts gX11_years_X11_sentAll rfl rfl rfl (by decide +kernel) ⟨Nat.le_of_ble_eq_true rfl, Nat.le_of_ble_eq_true rfl⟩) ⟨fun a U g mk q => by obtain ⟨q0, q1, qP, qE, qD⟩ := q; exact ⟨q0, q1, qP, kE_call qE, qD⟩, va_recv hK hP (ci := 11) (q0 := 0) rfl rfl, fun U hU hW => ⟨rfl, by rw [hU], by rw [hU]; exact hPc, kE_warm hW hE, hDc.weaken (fun _ _ _ _ => trivial)⟩⟩ rfl rfl hl.1 rfl (lv_room (Nat.le_of_ble_eq_true rfl)) dX11_years_48 ⟨Nat.le_of_ble_eq_true rfl, Nat.le_of_ble_eq_true rfl⟩) hS (fun q _ h => hFc q h) hFc (fun r53 u t H1 locs ht hvm w54 hB hz1 hk1 hS => ?_)
      obtain ⟨hP1, hD1⟩ := hB
      rw [ht] at hP1
      try dsimp only at w54
      obtain ⟨hP, hD⟩ := va_join (wr := [(ra 2, .inl (kI, 8, .inl q_told)), (ra 3, .inl (kI, 24, .inl q_kind)), (ra 4, .inl (kI, 24, .inl q_salt)), (ra 5, .inl (kI, 24, .inl q_pace)), (ra 6, .inl (kI, 24, .inl q_mute)), (ra 7, .inl (kI, 24, .inl q_late)), (ra 8, .inl (kI, 40, .inl q_from)), (ra 9, .inl (kI, 40, .inl q_to)), (ra 10, .inl (kI, 6, .inl q_goal)), (ra 14, .inl (kI, 12, .inl q_reach)), (ra 15, .inl (kJ, 24, .inr (.inl q_met))), (ra 27, .inl (kI, 1019, .inl f51))]) (w1 := [(m0, .inr (11, oX11 ra (upd x0 0 0))), (ra 11, .inl (kI, 1019, .inl q_now))]) hP hD [0, 13] [1, 2, 3, 4, 5, 6, 7, 8, 9, 10, 11, 12] rfl rfl (by decide +kernel) (by decide +kernel) hk1 hFc hP1 hD1
      generalize H1 = H at hP hS ⊢
      have hP : va_P (dC, dI) vwCl [(ra 2, .inl (kI, 8, .inl q_told)), (ra 3, .inl (kI, 24, .inl q_kind)), (ra 4, .inl (kI, 24, .inl q_salt)), (ra 5, .inl (kI, 24, .inl q_pace)), (ra 6, .inl (kI, 24, .inl q_mute)), (ra 7, .inl (kI, 24, .inl q_late)), (ra 8, .inl (kI, 40, .inl q_from)), (ra 9, .inl (kI, 40, .inl q_to)), (ra 10, .inl (kI, 6, .inl q_goal)), (ra 14, .inl (kI, 12, .inl q_reach)), (ra 15, .inl (kJ, 24, .inr (.inl q_met))), (ra 27, .inl (kI, 1019, .inl f51)), (m0, .inr (11, oX11 ra (upd x0 0 0))), (ra 11, .inl (kI, 1019, .inl q_now))] H := hP
      have hD : va_D A [(ra 2, .inl (kI, 8, .inl q_told)), (ra 3, .inl (kI, 24, .inl q_kind)), (ra 4, .inl (kI, 24, .inl q_salt)), (ra 5, .inl (kI, 24, .inl q_pace)), (ra 6, .inl (kI, 24, .inl q_mute)), (ra 7, .inl (kI, 24, .inl q_late)), (ra 8, .inl (kI, 40, .inl q_from)), (ra 9, .inl (kI, 40, .inl q_to)), (ra 10, .inl (kI, 6, .inl q_goal)), (ra 14, .inl (kI, 12, .inl q_reach)), (ra 15, .inl (kJ, 24, .inr (.inl q_met))), (ra 27, .inl (kI, 1019, .inl f51)), (m0, .inr (11, oX11 ra (upd x0 0 0))), (ra 11, .inl (kI, 1019, .inl q_now))] := hD
      refine W.widen (k := 0) (n := 0) (Nat.le_of_ble_eq_true rfl) (Nat.le_of_ble_eq_true rfl) ?_
      refine lv_istore (lv' := [(4, .int r53), (0, .ref m0), (1, .int p0), (2, .int p1), (3, .int p2)]) hx hb dX11_years_51 hl (by decide) rfl (fun ls hl => ?_)
      refine lv_aload_n hx hb dX11_years_53 rfl (lv_at hl 1 rfl) ?_
      refine lv_iload_n hx hb dX11_years_54 rfl (lv_at hl 2 rfl) ?_
      refine va_put (D := (dC, dI)) (ci := 11) (v := .int p0) (ty := .int) (C := RX11) (T := TX11) (N := 61) hx hb hts hin11 tyX11 tyX11_ok nmX11 hown hK hP hD hS 12 rfl rfl 49 (by decide) hw_3 (fun _ h9 => h9) rfl (by decide +kernel) rfl rfl (Nat.le_of_ble_eq_true rfl) dX11_years_55 (fun H locs hP hD hS => ?_)
      have hP : va_P (dC, dI) vwCl [(ra 2, .inl (kI, 8, .inl q_told)), (ra 3, .inl (kI, 24, .inl q_kind)), (ra 4, .inl (kI, 24, .inl q_salt)), (ra 5, .inl (kI, 24, .inl q_pace)), (ra 6, .inl (kI, 24, .inl q_mute)), (ra 7, .inl (kI, 24, .inl q_late)), (ra 8, .inl (kI, 40, .inl q_from)), (ra 9, .inl (kI, 40, .inl q_to)), (ra 10, .inl (kI, 6, .inl q_goal)), (ra 14, .inl (kI, 12, .inl q_reach)), (ra 15, .inl (kJ, 24, .inr (.inl q_met))), (ra 27, .inl (kI, 1019, .inl f51)), (m0, .inr (11, oX11 ra (upd (upd x0 0 0) 22 p0))), (ra 11, .inl (kI, 1019, .inl q_now))] H := hP
      have hD : va_D A [(ra 2, .inl (kI, 8, .inl q_told)), (ra 3, .inl (kI, 24, .inl q_kind)), (ra 4, .inl (kI, 24, .inl q_salt)), (ra 5, .inl (kI, 24, .inl q_pace)), (ra 6, .inl (kI, 24, .inl q_mute)), (ra 7, .inl (kI, 24, .inl q_late)), (ra 8, .inl (kI, 40, .inl q_from)), (ra 9, .inl (kI, 40, .inl q_to)), (ra 10, .inl (kI, 6, .inl q_goal)), (ra 14, .inl (kI, 12, .inl q_reach)), (ra 15, .inl (kJ, 24, .inr (.inl q_met))), (ra 27, .inl (kI, 1019, .inl f51)), (m0, .inr (11, oX11 ra (upd (upd x0 0 0) 22 p0))), (ra 11, .inl (kI, 1019, .inl q_now))] := hD
      refine lv_iconst (v := 0) hx hb dX11_years_58 (by decide) ?_
      refine lv_istore (lv' := [(5, .int 0), (4, .int r53), (0, .ref m0), (1, .int p0), (2, .int p1), (3, .int p2)]) hx hb dX11_years_59 hl (by decide) rfl (fun ls hl => ?_)
      exact hJ61 _ (upd (upd x0 0 0) 22 p0) q_now q_met f51 r53 0 _ _ _ (Nat.lt_succ_self _) ((fI_u (fI_u hX (k := 0) ((iv_w (iv_k (by decide) (by decide) : iv 0 0 0) (by decide) (by decide)))) (k := 22) ((iv_t p0)))) (hq_now) (hq52) (b48) (b42) ((iv_w (iv_k (by decide) (by decide) : iv 0 0 0) (by decide) (by decide))) (hP.sub [12, 0, 1, 2, 3, 4, 5, 6, 7, 8, 13, 9, 10, 11] rfl) (hD.sub [12, 0, 1, 2, 3, 4, 5, 6, 7, 8, 13, 9, 10, 11] (by decide +kernel) rfl) hS (lv_sub hl [2, 3, 4, 5, 1, 0] rfl)
    · have b55 : iv 0 0 r43 := iv_eqL c45 (iv_k (by decide) (by decide) : iv 0 0 0)
      refine lv_aload_n hx hb dX11_years_30 rfl (lv_at hl 0 rfl) ?_
      refine lv_iconst (v := 2) hx hb dX11_years_31 (by decide) ?_
      have hPc := hP.sub (ws' := [(m0, .inr (11, oX11 ra (upd x0 0 0)))]) [0] rfl
      have hDc := hD.sub (ws' := [(m0, .inr (11, oX11 ra (upd x0 0 0)))]) [0] (by decide +kernel) rfl
      have hFc := va_free (wc := [(m0, .inr (11, oX11 ra (upd x0 0 0)))]) hD hS hA [0] rfl
      refine va_calli (va_runV (As := [.int 2]) (rest := []) ⟨hx, hb, hml, hown, hts⟩ (s11_fail l dC dI kB kI kJ kZ kC kS H.size m0 ra (upd x0 0 0) 2 ((fI_u hX (k := 0) ((iv_w (iv_k (by decide) (by decide) : iv 0 0 0) (by decide) (by decide)))))) (cwV 1 hts gX11_years_X11_fail rfl rfl rfl (by decide +kernel) ⟨Nat.le_of_ble_eq_true rfl, Nat.le_of_ble_eq_true rfl⟩) ⟨fun a U g mk q => by obtain ⟨q0, q1, qP, qE, qD⟩ := q; exact ⟨q0, q1, qP, kE_call qE, qD⟩, va_recv hK hP (ci := 11) (q0 := 0) rfl rfl, fun U hU hW => ⟨rfl, by rw [hU], by rw [hU]; exact hPc, kE_warm hW hE, hDc.weaken (fun _ _ _ _ => trivial)⟩⟩ rfl rfl hl.1 rfl (lv_room (Nat.le_of_ble_eq_true rfl)) dX11_years_32 ⟨Nat.le_of_ble_eq_true rfl, Nat.le_of_ble_eq_true rfl⟩) hS (fun q _ h => hFc q h) hFc (fun r56 u t H1 locs ht hvm w57 hB hz1 hk1 hS => ?_)
      obtain ⟨y58, hq59, hq60, hP1, hD1⟩ := hB
      rw [ht] at hP1
      try dsimp only at w57
      obtain ⟨hP, hD⟩ := va_join (wr := [(ra 2, .inl (kI, 8, .inl q_told)), (ra 3, .inl (kI, 24, .inl q_kind)), (ra 4, .inl (kI, 24, .inl q_salt)), (ra 5, .inl (kI, 24, .inl q_pace)), (ra 6, .inl (kI, 24, .inl q_mute)), (ra 7, .inl (kI, 24, .inl q_late)), (ra 8, .inl (kI, 40, .inl q_from)), (ra 9, .inl (kI, 40, .inl q_to)), (ra 10, .inl (kI, 6, .inl q_goal)), (ra 11, .inl (kI, 1019, .inl q_now)), (ra 14, .inl (kI, 12, .inl q_reach)), (ra 15, .inl (kJ, 24, .inr (.inl q_met))), (ra 27, .inl (kI, 1019, .inl q_rowThen))]) (w1 := [(m0, .inr (11, oX11 ra y58))]) hP hD [0] [1, 2, 3, 4, 5, 6, 7, 8, 9, 10, 11, 12, 13] rfl rfl (by decide +kernel) (by decide +kernel) hk1 hFc hP1 hD1
      generalize H1 = H at hP hS ⊢
      have hP : va_P (dC, dI) vwCl [(ra 2, .inl (kI, 8, .inl q_told)), (ra 3, .inl (kI, 24, .inl q_kind)), (ra 4, .inl (kI, 24, .inl q_salt)), (ra 5, .inl (kI, 24, .inl q_pace)), (ra 6, .inl (kI, 24, .inl q_mute)), (ra 7, .inl (kI, 24, .inl q_late)), (ra 8, .inl (kI, 40, .inl q_from)), (ra 9, .inl (kI, 40, .inl q_to)), (ra 10, .inl (kI, 6, .inl q_goal)), (ra 11, .inl (kI, 1019, .inl q_now)), (ra 14, .inl (kI, 12, .inl q_reach)), (ra 15, .inl (kJ, 24, .inr (.inl q_met))), (ra 27, .inl (kI, 1019, .inl q_rowThen)), (m0, .inr (11, oX11 ra y58))] H := hP
      have hD : va_D A [(ra 2, .inl (kI, 8, .inl q_told)), (ra 3, .inl (kI, 24, .inl q_kind)), (ra 4, .inl (kI, 24, .inl q_salt)), (ra 5, .inl (kI, 24, .inl q_pace)), (ra 6, .inl (kI, 24, .inl q_mute)), (ra 7, .inl (kI, 24, .inl q_late)), (ra 8, .inl (kI, 40, .inl q_from)), (ra 9, .inl (kI, 40, .inl q_to)), (ra 10, .inl (kI, 6, .inl q_goal)), (ra 11, .inl (kI, 1019, .inl q_now)), (ra 14, .inl (kI, 12, .inl q_reach)), (ra 15, .inl (kJ, 24, .inr (.inl q_met))), (ra 27, .inl (kI, 1019, .inl q_rowThen)), (m0, .inr (11, oX11 ra y58))] := hD
      refine W.widen (k := 0) (n := 0) (Nat.le_of_ble_eq_true rfl) (Nat.le_of_ble_eq_true rfl) ?_
      obtain rfl : r56 = 0 := iv_one w57 (by decide)
      have hP9 := hP.sub (ws' := [(m0, .inr (11, oX11 ra y58)), (ra 2, .inl (kI, 8, .inl q_told)), (ra 3, .inl (kI, 24, .inl q_kind)), (ra 4, .inl (kI, 24, .inl q_salt)), (ra 5, .inl (kI, 24, .inl q_pace)), (ra 6, .inl (kI, 24, .inl q_mute)), (ra 7, .inl (kI, 24, .inl q_late)), (ra 8, .inl (kI, 40, .inl q_from)), (ra 9, .inl (kI, 40, .inl q_to)), (ra 10, .inl (kI, 6, .inl q_goal)), (ra 11, .inl (kI, 1019, .inl q_now)), (ra 14, .inl (kI, 12, .inl q_reach)), (ra 15, .inl (kJ, 24, .inr (.inl q_met))), (ra 27, .inl (kI, 1019, .inl q_rowThen))]) [13, 0, 1, 2, 3, 4, 5, 6, 7, 8, 9, 10, 11, 12] rfl
      have hD9 := hD.sub (ws' := [(m0, .inr (11, oX11 ra y58)), (ra 2, .inl (kI, 8, .inl q_told)), (ra 3, .inl (kI, 24, .inl q_kind)), (ra 4, .inl (kI, 24, .inl q_salt)), (ra 5, .inl (kI, 24, .inl q_pace)), (ra 6, .inl (kI, 24, .inl q_mute)), (ra 7, .inl (kI, 24, .inl q_late)), (ra 8, .inl (kI, 40, .inl q_from)), (ra 9, .inl (kI, 40, .inl q_to)), (ra 10, .inl (kI, 6, .inl q_goal)), (ra 11, .inl (kI, 1019, .inl q_now)), (ra 14, .inl (kI, 12, .inl q_reach)), (ra 15, .inl (kJ, 24, .inr (.inl q_met))), (ra 27, .inl (kI, 1019, .inl q_rowThen))]) [13, 0, 1, 2, 3, 4, 5, 6, 7, 8, 9, 10, 11, 12] (by decide +kernel) rfl
      exact W.iret (v := 0) hx hb hr (fun t ht hW => ⟨⟨0, (), rfl, trivial, y58, q_now, q_met, q_rowThen, hq59, hq_now, hq_rowThen, by rw [ht]; exact hP9, hD9⟩, hS.F ht⟩) hS.2.2 dX11_years_35
  · have b61 : iv 0 0 r37 := iv_eqL c39 (iv_k (by decide) (by decide) : iv 0 0 0)
    refine lv_aload_n hx hb dX11_years_14 rfl (lv_at hl 0 rfl) ?_
    refine lv_iconst (v := 1) hx hb dX11_years_15 (by decide) ?_
    have hPc := hP.sub (ws' := [(m0, .inr (11, oX11 ra (upd x0 0 0)))]) [0] rfl
    have hDc := hD.sub (ws' := [(m0, .inr (11, oX11 ra (upd x0 0 0)))]) [0] (by decide +kernel) rfl
    have hFc := va_free (wc := [(m0, .inr (11, oX11 ra (upd x0 0 0)))]) hD hS hA [0] rfl
    refine va_calli (va_runV (As := [.int 1]) (rest := []) ⟨hx, hb, hml, hown, hts⟩ (s11_fail l dC dI kB kI kJ kZ kC kS H.size m0 ra (upd x0 0 0) 1 ((fI_u hX (k := 0) ((iv_w (iv_k (by decide) (by decide) : iv 0 0 0) (by decide) (by decide)))))) (cwV 1 hts gX11_years_X11_fail rfl rfl rfl (by decide +kernel) ⟨Nat.le_of_ble_eq_true rfl, Nat.le_of_ble_eq_true rfl⟩) ⟨fun a U g mk q => by obtain ⟨q0, q1, qP, qE, qD⟩ := q; exact ⟨q0, q1, qP, kE_call qE, qD⟩, va_recv hK hP (ci := 11) (q0 := 0) rfl rfl, fun U hU hW => ⟨rfl, by rw [hU], by rw [hU]; exact hPc, kE_warm hW hE, hDc.weaken (fun _ _ _ _ => trivial)⟩⟩ rfl rfl hl.1 rfl (lv_room (Nat.le_of_ble_eq_true rfl)) dX11_years_16 ⟨Nat.le_of_ble_eq_true rfl, Nat.le_of_ble_eq_true rfl⟩) hS (fun q _ h => hFc q h) hFc (fun r62 u t H1 locs ht hvm w63 hB hz1 hk1 hS => ?_)
    obtain ⟨y64, hq65, hq66, hP1, hD1⟩ := hB
    rw [ht] at hP1
    try dsimp only at w63
    obtain ⟨hP, hD⟩ := va_join (wr := [(ra 2, .inl (kI, 8, .inl q_told)), (ra 3, .inl (kI, 24, .inl q_kind)), (ra 4, .inl (kI, 24, .inl q_salt)), (ra 5, .inl (kI, 24, .inl q_pace)), (ra 6, .inl (kI, 24, .inl q_mute)), (ra 7, .inl (kI, 24, .inl q_late)), (ra 8, .inl (kI, 40, .inl q_from)), (ra 9, .inl (kI, 40, .inl q_to)), (ra 10, .inl (kI, 6, .inl q_goal)), (ra 11, .inl (kI, 1019, .inl q_now)), (ra 14, .inl (kI, 12, .inl q_reach)), (ra 15, .inl (kJ, 24, .inr (.inl q_met))), (ra 27, .inl (kI, 1019, .inl q_rowThen))]) (w1 := [(m0, .inr (11, oX11 ra y64))]) hP hD [0] [1, 2, 3, 4, 5, 6, 7, 8, 9, 10, 11, 12, 13] rfl rfl (by decide +kernel) (by decide +kernel) hk1 hFc hP1 hD1
    generalize H1 = H at hP hS ⊢
    have hP : va_P (dC, dI) vwCl [(ra 2, .inl (kI, 8, .inl q_told)), (ra 3, .inl (kI, 24, .inl q_kind)), (ra 4, .inl (kI, 24, .inl q_salt)), (ra 5, .inl (kI, 24, .inl q_pace)), (ra 6, .inl (kI, 24, .inl q_mute)), (ra 7, .inl (kI, 24, .inl q_late)), (ra 8, .inl (kI, 40, .inl q_from)), (ra 9, .inl (kI, 40, .inl q_to)), (ra 10, .inl (kI, 6, .inl q_goal)), (ra 11, .inl (kI, 1019, .inl q_now)), (ra 14, .inl (kI, 12, .inl q_reach)), (ra 15, .inl (kJ, 24, .inr (.inl q_met))), (ra 27, .inl (kI, 1019, .inl q_rowThen)), (m0, .inr (11, oX11 ra y64))] H := hP
    have hD : va_D A [(ra 2, .inl (kI, 8, .inl q_told)), (ra 3, .inl (kI, 24, .inl q_kind)), (ra 4, .inl (kI, 24, .inl q_salt)), (ra 5, .inl (kI, 24, .inl q_pace)), (ra 6, .inl (kI, 24, .inl q_mute)), (ra 7, .inl (kI, 24, .inl q_late)), (ra 8, .inl (kI, 40, .inl q_from)), (ra 9, .inl (kI, 40, .inl q_to)), (ra 10, .inl (kI, 6, .inl q_goal)), (ra 11, .inl (kI, 1019, .inl q_now)), (ra 14, .inl (kI, 12, .inl q_reach)), (ra 15, .inl (kJ, 24, .inr (.inl q_met))), (ra 27, .inl (kI, 1019, .inl q_rowThen)), (m0, .inr (11, oX11 ra y64))] := hD
    refine W.widen (k := 0) (n := 0) (Nat.le_of_ble_eq_true rfl) (Nat.le_of_ble_eq_true rfl) ?_
    obtain rfl : r62 = 0 := iv_one w63 (by decide)
    have hP9 := hP.sub (ws' := [(m0, .inr (11, oX11 ra y64)), (ra 2, .inl (kI, 8, .inl q_told)), (ra 3, .inl (kI, 24, .inl q_kind)), (ra 4, .inl (kI, 24, .inl q_salt)), (ra 5, .inl (kI, 24, .inl q_pace)), (ra 6, .inl (kI, 24, .inl q_mute)), (ra 7, .inl (kI, 24, .inl q_late)), (ra 8, .inl (kI, 40, .inl q_from)), (ra 9, .inl (kI, 40, .inl q_to)), (ra 10, .inl (kI, 6, .inl q_goal)), (ra 11, .inl (kI, 1019, .inl q_now)), (ra 14, .inl (kI, 12, .inl q_reach)), (ra 15, .inl (kJ, 24, .inr (.inl q_met))), (ra 27, .inl (kI, 1019, .inl q_rowThen))]) [13, 0, 1, 2, 3, 4, 5, 6, 7, 8, 9, 10, 11, 12] rfl
    have hD9 := hD.sub (ws' := [(m0, .inr (11, oX11 ra y64)), (ra 2, .inl (kI, 8, .inl q_told)), (ra 3, .inl (kI, 24, .inl q_kind)), (ra 4, .inl (kI, 24, .inl q_salt)), (ra 5, .inl (kI, 24, .inl q_pace)), (ra 6, .inl (kI, 24, .inl q_mute)), (ra 7, .inl (kI, 24, .inl q_late)), (ra 8, .inl (kI, 40, .inl q_from)), (ra 9, .inl (kI, 40, .inl q_to)), (ra 10, .inl (kI, 6, .inl q_goal)), (ra 11, .inl (kI, 1019, .inl q_now)), (ra 14, .inl (kI, 12, .inl q_reach)), (ra 15, .inl (kJ, 24, .inr (.inl q_met))), (ra 27, .inl (kI, 1019, .inl q_rowThen))]) [13, 0, 1, 2, 3, 4, 5, 6, 7, 8, 9, 10, 11, 12] (by decide +kernel) rfl
    exact W.iret (v := 0) hx hb hr (fun t ht hW => ⟨⟨0, (), rfl, trivial, y64, q_now, q_met, q_rowThen, hq65, hq_now, hq_rowThen, by rw [ht]; exact hP9, hD9⟩, hS.F ht⟩) hS.2.2 dX11_years_19
