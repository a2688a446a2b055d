def rm_s11_isRouter : Room := { frames := 1, cells := 0, slots := 0, locals := 22 }
set_option maxHeartbeats 4000000 in
set_option maxRecDepth 100000 in
theorem s11_isRouter (l : Launch) (dC : Nat → ClassId) (dI : Nat → Nat → Nat) (kB kI kJ kZ kC kS : ClassId) (sz : Nat) (m0 : Nat) (ra : Nat → Nat) (x0 : Nat → Int32) (q_told : Nat → Int32) (p0 : Int32) (hX : fI lX11 hX11 x0) (hq_told : fI lTold hTold q_told) : Met l yX11_isRouter wsX11_isRouter rm_s11_isRouter (va_Pc [.ref m0, .int p0] (fun U => U.heap.size = sz ∧ va_P (dC, dI) vwCl [(m0, .inr (11, oX11 ra x0)), (ra 2, .inl (kI, 8, .inl q_told))] U.heap ∧ kE dC dI kB kI kJ kZ kC kS U ∧ va_D (fun _ => True) [(m0, .inr (11, oX11 ra x0)), (ra 2, .inl (kI, 8, .inl q_told))])) (va_Qi (fun (r : Int32) (_ : Unit) => iv 0 1 r ∧ (r = 0 ∨ iv 0 11 p0)) (fun _ t => va_P (dC, dI) vwCl [(m0, .inr (11, oX11 ra x0)), (ra 2, .inl (kI, 8, .inl q_told))] t.heap ∧ va_D (va_A [(m0, .inr (11, oX11 ra x0)), (ra 2, .inl (kI, 8, .inl q_told))] sz) [(m0, .inr (11, oX11 ra x0)), (ra 2, .inl (kI, 8, .inl q_told))]) (va_A [(m0, .inr (11, oX11 ra x0)), (ra 2, .inl (kI, 8, .inl q_told))] sz)) 0 0 (va_A [(m0, .inr (11, oX11 ra x0)), (ra 2, .inl (kI, 8, .inl q_told))] sz) := by
  refine Met.ofW (cc := cX11_isRouter) (maxL := 2) (ret := (some .boolean)) (by decide) rfl ?_
  intro p e s m args0 below meth c s₁ B hml hv
  obtain ⟨hargs, hsz, hP, hE, hD0⟩ := hv
  have hx := B.exec
  have hb := B.bytes
  have hr := B.returns
  have hts := atoms_spec (ws := wsX11_isRouter) B.pre
  have hown : s.vm.findClass RX11 = some m.cls := findClass_of_methodNamed B.named
  have hlocks := B.notSynchronized
  have hK := hE.1
  have hin11 : ∀ w ∈ wsX110, w ∈ wsX11_isRouter := fun _ h9 => List.mem_cons_of_mem _ (List.mem_append_right _ h9)
  subst hsz
  have hD := hD0.self (sz := s.heap.size)
  generalize hAe : va_A [(m0, .inr (11, oX11 ra x0)), (ra 2, .inl (kI, 8, .inl q_told))] s.heap.size = A at hD ⊢
  have hA : ∀ q : Nat, s.heap.size ≤ q → A q := fun q h => by rw [← hAe]; exact Or.inr h
  have hS : va_S A s.heap s.heap [] := va_S.rf
  have hP : va_P (dC, dI) vwCl [(m0, .inr (11, oX11 ra x0)), (ra 2, .inl (kI, 8, .inl q_told))] s.heap := hP
  have hl := lv_entry ([.ref m0, .int p0]) (n := 2) (Nat.le_of_ble_eq_true rfl)
  have hla : entryFrame m args0 2 = entryFrame m ([.ref m0, .int p0] : List Value).toArray 2 := by rw [hargs]
  rw [hla, lg_entry_eq]
  generalize (lg_sl ([.ref m0, .int p0]) ++ List.replicate (2 - (lg_sl ([.ref m0, .int p0])).length) Slot.unset).toArray = ls at hl ⊢
  have hl : lv_has ls 2 [(0, .ref m0), (1, .int p0)] := hl
  refine lv_iload_n hx hb dX11_isRouter_0 rfl (lv_at hl 1 rfl) ?_
  refine lv_iconst (v := 0) hx hb dX11_isRouter_1 ic_0 ?_
  refine lv_aload_n hx hb dX11_isRouter_2 rfl (lv_at hl 0 rfl) ?_
  obtain ⟨hPc, hDc, hFc, hJn⟩ := cl_a (wc := [(m0, .inr (11, oX11 ra x0)), (ra 2, .inl (kI, 8, .inl q_told))]) (wr := []) hP hD hS hA [0, 1] [] rfl rfl (by decide +kernel)
  refine va_calli (va_runV (As := []) (rest := [.int 0, .int p0]) ⟨hx, hb, hml, hown, hts⟩ (s11_routers l dC dI kB kI kJ kZ kC kS s.heap.size m0 ra x0 q_told (hX) (hq_told)) (cwV 0 hts gX11_isRouter_X11_routers rfl rfl rfl (by decide +kernel) ⟨Nat.le_of_ble_eq_true rfl, Nat.le_of_ble_eq_true rfl⟩) ⟨fun a U g mk q => by obtain ⟨q0, q1, qP, qE, qD⟩ := q; exact ⟨q0, q1, qP, kE_call qE, qD⟩, va_recv hK hP (ci := 11) (q0 := 0) rfl rfl, fun U hU hW => ⟨rfl, by rw [hU], by rw [hU]; exact hPc, kE_warm hW hE, hDc.weaken (fun _ _ _ _ => trivial)⟩⟩ rfl rfl hl.1 rfl (lv_room (Nat.le_of_ble_eq_true rfl)) dX11_isRouter_3 ⟨Nat.le_of_ble_eq_true rfl, Nat.le_of_ble_eq_true rfl⟩) hS (fun q _ h => hFc q h) hFc (fun r1 u t H locs ht hvm w2 hB hz1 hk1 hS => ?_)
  obtain ⟨hP1, hD1⟩ := hB
  try dsimp only at w2
  obtain ⟨hPa, hDa⟩ := hJn (w1 := [(m0, .inr (11, oX11 ra x0)), (ra 2, .inl (kI, 8, .inl q_told))]) hk1 ht hP1 hD1
  clear hP hD hPc hDc hFc hJn hP1 hD1 hk1
  have hP : va_P (dC, dI) vwCl [(m0, .inr (11, oX11 ra x0)), (ra 2, .inl (kI, 8, .inl q_told))] H := hPa
  have hD : va_D A [(m0, .inr (11, oX11 ra x0)), (ra 2, .inl (kI, 8, .inl q_told))] := hDa
  clear hPa hDa
  refine W.widen (k := 0) (n := 0) (Nat.le_of_ble_eq_true rfl) (Nat.le_of_ble_eq_true rfl) ?_
  subst w2
  refine lv_iconst (v := 1) hx hb dX11_isRouter_6 ic_1 ?_
  refine lv_isub hx hb dX11_isRouter_7 ?_
  refine iv_top (a := (-1)) (b := 11) (iv_sub (hq_told 0 : iv 0 12 (q_told 0)) ivk_1 (by decide) (by decide) (by decide) (by decide)) (fun z3 b4 => ?_)
  obtain ⟨hPc, hDc, hFc, hJn⟩ := cl_a (wc := []) (wr := [(m0, .inr (11, oX11 ra x0)), (ra 2, .inl (kI, 8, .inl q_told))]) hP hD hS hA [] [0, 1] rfl rfl (by decide +kernel)
  refine va_calli (va_runS (As := [.int p0, .int 0, .int z3]) (rest := []) ⟨hx, hb, hml, hown, hts⟩ (s11_isIn l dC dI kB kI kJ kZ kC kS H.size p0 0 z3) (va_cwS 3 hts gX11_isRouter_X11_isIn rfl rfl rfl (by decide +kernel) ⟨Nat.le_of_ble_eq_true rfl, Nat.le_of_ble_eq_true rfl⟩) ⟨fun a U g mk q => by obtain ⟨q0, q1, qP, qE, qD⟩ := q; exact ⟨q0, q1, qP, kE_call qE, qD⟩, fun U hU hW => ⟨rfl, by rw [hU], by rw [hU]; exact hPc, kE_warm hW hE, hDc.weaken (fun _ _ _ _ => trivial)⟩⟩ rfl rfl hl.1 rfl (lv_room (Nat.le_of_ble_eq_true rfl)) dX11_isRouter_8 ⟨Nat.le_of_ble_eq_true rfl, Nat.le_of_ble_eq_true rfl⟩) hS (fun q _ h => hFc q h) hFc (fun r5 u t H locs ht hvm w6 hB hz1 hk1 hS => ?_)
  obtain ⟨hP1, hD1⟩ := hB
  try dsimp only at w6
  obtain ⟨hPa, hDa⟩ := hJn (w1 := []) hk1 ht hP1 hD1
  clear hP hD hPc hDc hFc hJn hP1 hD1 hk1
  have hP : va_P (dC, dI) vwCl [(m0, .inr (11, oX11 ra x0)), (ra 2, .inl (kI, 8, .inl q_told))] H := hPa
  have hD : va_D A [(m0, .inr (11, oX11 ra x0)), (ra 2, .inl (kI, 8, .inl q_told))] := hDa
  clear hPa hDa
  refine W.widen (k := 0) (n := 0) (Nat.le_of_ble_eq_true rfl) (Nat.le_of_ble_eq_true rfl) ?_
  have hP9 := hP
  have hD9 := hD
  exact W.zret (v := r5) (ty := .boolean) hx hb hr (z_nar w6.1) (fun t ht hW => ⟨⟨r5, (), rfl, ⟨w6.1, (w6.2).imp_right (fun h => iv_w (in_iv h ivk_0 b4) (by decide) (by decide))⟩, by rw [ht]; exact hP9, hD9⟩, hS.F ht⟩) hS.2.2 dX11_isRouter_11
def rm_s11_isAddress : Room := { frames := 1, cells := 0, slots := 0, locals := 22 }
set_option maxHeartbeats 4000000 in
set_option maxRecDepth 100000 in
theorem s11_isAddress (l : Launch) (dC : Nat → ClassId) (dI : Nat → Nat → Nat) (kB kI kJ kZ kC kS : ClassId) (sz : Nat) (m0 : Nat) (ra : Nat → Nat) (x0 : Nat → Int32) (q_told : Nat → Int32) (p0 : Int32) (hX : fI lX11 hX11 x0) (hq_told : fI lTold hTold q_told) : Met l yX11_isAddress wsX11_isAddress rm_s11_isAddress (va_Pc [.ref m0, .int p0] (fun U => U.heap.size = sz ∧ va_P (dC, dI) vwCl [(m0, .inr (11, oX11 ra x0)), (ra 2, .inl (kI, 8, .inl q_told))] U.heap ∧ kE dC dI kB kI kJ kZ kC kS U ∧ va_D (fun _ => True) [(m0, .inr (11, oX11 ra x0)), (ra 2, .inl (kI, 8, .inl q_told))])) (va_Qi (fun (r : Int32) (_ : Unit) => iv 0 1 r ∧ (r = 0 ∨ iv 0 20 p0)) (fun _ t => va_P (dC, dI) vwCl [(m0, .inr (11, oX11 ra x0)), (ra 2, .inl (kI, 8, .inl q_told))] t.heap ∧ va_D (va_A [(m0, .inr (11, oX11 ra x0)), (ra 2, .inl (kI, 8, .inl q_told))] sz) [(m0, .inr (11, oX11 ra x0)), (ra 2, .inl (kI, 8, .inl q_told))]) (va_A [(m0, .inr (11, oX11 ra x0)), (ra 2, .inl (kI, 8, .inl q_told))] sz)) 0 0 (va_A [(m0, .inr (11, oX11 ra x0)), (ra 2, .inl (kI, 8, .inl q_told))] sz) := by
  refine Met.ofW (cc := cX11_isAddress) (maxL := 2) (ret := (some .boolean)) (by decide) rfl ?_
  intro p e s m args0 below meth c s₁ B hml hv
  obtain ⟨hargs, hsz, hP, hE, hD0⟩ := hv
  have hx := B.exec
  have hb := B.bytes
  have hr := B.returns
  have hts := atoms_spec (ws := wsX11_isAddress) B.pre
  have hown : s.vm.findClass RX11 = some m.cls := findClass_of_methodNamed B.named
  have hlocks := B.notSynchronized
  have hK := hE.1
  have hin11 : ∀ w ∈ wsX110, w ∈ wsX11_isAddress := fun _ h9 => List.mem_cons_of_mem _ (List.mem_append_right _ h9)
  subst hsz
  have hD := hD0.self (sz := s.heap.size)
  generalize hAe : va_A [(m0, .inr (11, oX11 ra x0)), (ra 2, .inl (kI, 8, .inl q_told))] s.heap.size = A at hD ⊢
  have hA : ∀ q : Nat, s.heap.size ≤ q → A q := fun q h => by rw [← hAe]; exact Or.inr h
  have hS : va_S A s.heap s.heap [] := va_S.rf
  have hP : va_P (dC, dI) vwCl [(m0, .inr (11, oX11 ra x0)), (ra 2, .inl (kI, 8, .inl q_told))] s.heap := hP
  have hl := lv_entry ([.ref m0, .int p0]) (n := 2) (Nat.le_of_ble_eq_true rfl)
  have hla : entryFrame m args0 2 = entryFrame m ([.ref m0, .int p0] : List Value).toArray 2 := by rw [hargs]
  rw [hla, lg_entry_eq]
  generalize (lg_sl ([.ref m0, .int p0]) ++ List.replicate (2 - (lg_sl ([.ref m0, .int p0])).length) Slot.unset).toArray = ls at hl ⊢
  have hl : lv_has ls 2 [(0, .ref m0), (1, .int p0)] := hl
  have hJ23 : ∀ (H : Heap) (locs : List Loc) (ls : Array Slot), (x0 1 = x0 1) → (x0 10 = x0 10) → va_P (dC, dI) vwCl [(m0, .inr (11, oX11 ra x0)), (ra 2, .inl (kI, 8, .inl q_told))] H → va_D A [(m0, .inr (11, oX11 ra x0)), (ra 2, .inl (kI, 8, .inl q_told))] → va_S A s.heap H locs → lv_has ls 2 [(0, .ref m0), (1, .int p0)] → W p l e (headSpec wsX11_isAddress rm_s11_isAddress).room s m args0 below meth c H locs (0) (0) (MQ below (va_Qi (fun (r : Int32) (_ : Unit) => iv 0 1 r ∧ (r = 0 ∨ iv 0 20 p0)) (fun _ t => va_P (dC, dI) vwCl [(m0, .inr (11, oX11 ra x0)), (ra 2, .inl (kI, 8, .inl q_told))] t.heap ∧ va_D A [(m0, .inr (11, oX11 ra x0)), (ra 2, .inl (kI, 8, .inl q_told))]) A) args0 s 0 0 A) (F0 m 23 ls []) := by
    intro H locs ls htp_23 hfp_23 hP hD hS hl
    refine lv_iconst (v := 0) hx hb dX11_isAddress_23 ic_0 ?_
    have hP9 := hP
    have hD9 := hD
    exact W.zret (v := 0) (ty := .boolean) hx hb hr rfl (fun t ht hW => ⟨⟨0, (), rfl, ⟨(iv_w ivk_0 (by decide) (by decide)), Or.inl rfl⟩, by rw [ht]; exact hP9, hD9⟩, hS.F ht⟩) hS.2.2 dX11_isAddress_24
  refine lv_iload_n hx hb dX11_isAddress_0 rfl (lv_at hl 1 rfl) ?_
  refine lv_iconst (v := 0) hx hb dX11_isAddress_1 ic_0 ?_
  refine lv_aload_n hx hb dX11_isAddress_2 rfl (lv_at hl 0 rfl) ?_
  obtain ⟨hPc, hDc, hFc, hJn⟩ := cl_a (wc := [(m0, .inr (11, oX11 ra x0)), (ra 2, .inl (kI, 8, .inl q_told))]) (wr := []) hP hD hS hA [0, 1] [] rfl rfl (by decide +kernel)
  refine va_calli (va_runV (As := []) (rest := [.int 0, .int p0]) ⟨hx, hb, hml, hown, hts⟩ (s11_links l dC dI kB kI kJ kZ kC kS s.heap.size m0 ra x0 q_told (hX) (hq_told)) (cwV 0 hts gX11_isAddress_X11_links rfl rfl rfl (by decide +kernel) ⟨Nat.le_of_ble_eq_true rfl, Nat.le_of_ble_eq_true rfl⟩) ⟨fun a U g mk q => by obtain ⟨q0, q1, qP, qE, qD⟩ := q; exact ⟨q0, q1, qP, kE_call qE, qD⟩, va_recv hK hP (ci := 11) (q0 := 0) rfl rfl, fun U hU hW => ⟨rfl, by rw [hU], by rw [hU]; exact hPc, kE_warm hW hE, hDc.weaken (fun _ _ _ _ => trivial)⟩⟩ rfl rfl hl.1 rfl (lv_room (Nat.le_of_ble_eq_true rfl)) dX11_isAddress_3 ⟨Nat.le_of_ble_eq_true rfl, Nat.le_of_ble_eq_true rfl⟩) hS (fun q _ h => hFc q h) hFc (fun r1 u t H locs ht hvm w2 hB hz1 hk1 hS => ?_)
  obtain ⟨hP1, hD1⟩ := hB
  try dsimp only at w2
  obtain ⟨hPa, hDa⟩ := hJn (w1 := [(m0, .inr (11, oX11 ra x0)), (ra 2, .inl (kI, 8, .inl q_told))]) hk1 ht hP1 hD1
  clear hP hD hPc hDc hFc hJn hP1 hD1 hk1
  have hP : va_P (dC, dI) vwCl [(m0, .inr (11, oX11 ra x0)), (ra 2, .inl (kI, 8, .inl q_told))] H := hPa
  have hD : va_D A [(m0, .inr (11, oX11 ra x0)), (ra 2, .inl (kI, 8, .inl q_told))] := hDa
  clear hPa hDa
  refine W.widen (k := 0) (n := 0) (Nat.le_of_ble_eq_true rfl) (Nat.le_of_ble_eq_true rfl) ?_
  subst w2
  obtain ⟨hPc, hDc, hFc, hJn⟩ := cl_a (wc := []) (wr := [(m0, .inr (11, oX11 ra x0)), (ra 2, .inl (kI, 8, .inl q_told))]) hP hD hS hA [] [0, 1] rfl rfl (by decide +kernel)
  refine va_calli (va_runS (As := [.int p0, .int 0, .int (q_told 1)]) (rest := []) ⟨hx, hb, hml, hown, hts⟩ (s11_isIn l dC dI kB kI kJ kZ kC kS H.size p0 0 (q_told 1)) (va_cwS 3 hts gX11_isAddress_X11_isIn rfl rfl rfl (by decide +kernel) ⟨Nat.le_of_ble_eq_true rfl, Nat.le_of_ble_eq_true rfl⟩) ⟨fun a U g mk q => by obtain ⟨q0, q1, qP, qE, qD⟩ := q; exact ⟨q0, q1, qP, kE_call qE, qD⟩, fun U hU hW => ⟨rfl, by rw [hU], by rw [hU]; exact hPc, kE_warm hW hE, hDc.weaken (fun _ _ _ _ => trivial)⟩⟩ rfl rfl hl.1 rfl (lv_room (Nat.le_of_ble_eq_true rfl)) dX11_isAddress_6 ⟨Nat.le_of_ble_eq_true rfl, Nat.le_of_ble_eq_true rfl⟩) hS (fun q _ h => hFc q h) hFc (fun r3 u t H locs ht hvm w4 hB hz1 hk1 hS => ?_)
  obtain ⟨hP1, hD1⟩ := hB
  try dsimp only at w4
  obtain ⟨hPa, hDa⟩ := hJn (w1 := []) hk1 ht hP1 hD1
  clear hP hD hPc hDc hFc hJn hP1 hD1 hk1
  have hP : va_P (dC, dI) vwCl [(m0, .inr (11, oX11 ra x0)), (ra 2, .inl (kI, 8, .inl q_told))] H := hPa
  have hD : va_D A [(m0, .inr (11, oX11 ra x0)), (ra 2, .inl (kI, 8, .inl q_told))] := hDa
  clear hPa hDa
  refine W.widen (k := 0) (n := 0) (Nat.le_of_ble_eq_true rfl) (Nat.le_of_ble_eq_true rfl) ?_
  refine lv_if_eq (tgt := 23) hx hb dX11_isAddress_9 rfl (fun c5 => ?_) (fun c5 => ?_)
  · have b6 : iv 0 0 r3 := iv_eqL c5 ivk_0
    exact hJ23 _ _ _ ((show x0 1 = x0 1 from rfl)) ((show x0 10 = x0 10 from rfl)) (hP) (hD) hS (lv_sub hl [0, 1] rfl)
  · have b7 : iv 1 1 r3 := iv_neLo c5 w4.1 ivk_0 (by decide) (by decide)
    have hr8 := (w4.2).resolve_left (iv_ne b7 ivk_0 (by decide))
    have b9 : iv 0 20 p0 := iv_cap (in_iv hr8 ivk_0 (hq_told 1 : iv 0 20 (q_told 1))) (iv_t p0) (by decide) (by decide)
    refine lv_aload_n hx hb dX11_isAddress_12 rfl (lv_at hl 0 rfl) ?_
    obtain ⟨hPc, hDc, hFc, hJn⟩ := cl_a (wc := [(m0, .inr (11, oX11 ra x0)), (ra 2, .inl (kI, 8, .inl q_told))]) (wr := []) hP hD hS hA [0, 1] [] rfl rfl (by decide +kernel)
    refine va_calli (va_runV (As := []) (rest := []) ⟨hx, hb, hml, hown, hts⟩ (s11_routers l dC dI kB kI kJ kZ kC kS H.size m0 ra x0 q_told (hX) (hq_told)) (cwV 0 hts gX11_isAddress_X11_routers rfl rfl rfl (by decide +kernel) ⟨Nat.le_of_ble_eq_true rfl, Nat.le_of_ble_eq_true rfl⟩) ⟨fun a U g mk q => by obtain ⟨q0, q1, qP, qE, qD⟩ := q; exact ⟨q0, q1, qP, kE_call qE, qD⟩, va_recv hK hP (ci := 11) (q0 := 0) rfl rfl, fun U hU hW => ⟨rfl, by rw [hU], by rw [hU]; exact hPc, kE_warm hW hE, hDc.weaken (fun _ _ _ _ => trivial)⟩⟩ rfl rfl hl.1 rfl (lv_room (Nat.le_of_ble_eq_true rfl)) dX11_isAddress_13 ⟨Nat.le_of_ble_eq_true rfl, Nat.le_of_ble_eq_true rfl⟩) hS (fun q _ h => hFc q h) hFc (fun r10 u t H locs ht hvm w11 hB hz1 hk1 hS => ?_)
    obtain ⟨hP1, hD1⟩ := hB
    try dsimp only at w11
    obtain ⟨hPa, hDa⟩ := hJn (w1 := [(m0, .inr (11, oX11 ra x0)), (ra 2, .inl (kI, 8, .inl q_told))]) hk1 ht hP1 hD1
    clear hP hD hPc hDc hFc hJn hP1 hD1 hk1
    have hP : va_P (dC, dI) vwCl [(m0, .inr (11, oX11 ra x0)), (ra 2, .inl (kI, 8, .inl q_told))] H := hPa
    have hD : va_D A [(m0, .inr (11, oX11 ra x0)), (ra 2, .inl (kI, 8, .inl q_told))] := hDa
    clear hPa hDa
    refine W.widen (k := 0) (n := 0) (Nat.le_of_ble_eq_true rfl) (Nat.le_of_ble_eq_true rfl) ?_
    subst w11
    refine lv_if_le (tgt := 23) hx hb dX11_isAddress_16 rfl (fun c12 => ?_) (fun c12 => ?_)
    · have b13 : iv 0 0 (q_told 0) := iv_leL c12 (hq_told 0 : iv 0 12 (q_told 0)) ivk_0 (by decide) (by decide)
      exact hJ23 _ _ _ ((show x0 1 = x0 1 from rfl)) ((show x0 10 = x0 10 from rfl)) (hP) (hD) hS (lv_sub hl [0, 1] rfl)
    · have b14 : iv 1 12 (q_told 0) := iv_ltR (Int32.not_le.mp c12) ivk_0 (hq_told 0 : iv 0 12 (q_told 0)) (by decide) (by decide)
      refine lv_iconst (v := 1) hx hb dX11_isAddress_19 ic_1 ?_
      refine lv_goto (tgt := 24) hx hb dX11_isAddress_20 rfl ?_
      have hP9 := hP
      have hD9 := hD
      exact W.zret (v := 1) (ty := .boolean) hx hb hr rfl (fun t ht hW => ⟨⟨1, (), rfl, ⟨(iv_w ivk_1 (by decide) (by decide)), Or.inr (b9)⟩, by rw [ht]; exact hP9, hD9⟩, hS.F ht⟩) hS.2.2 dX11_isAddress_24
def rm_s11_wasSeen : Room := { frames := 4, cells := 0, slots := 0, locals := 92 }
set_option maxHeartbeats 4000000 in
set_option maxRecDepth 100000 in
theorem s11_wasSeen (l : Launch) (dC : Nat → ClassId) (dI : Nat → Nat → Nat) (kB kI kJ kZ kC kS : ClassId) (sz : Nat) (m0 : Nat) (ra : Nat → Nat) (x0 : Nat → Int32) (q_told : Nat → Int32) (q_now : Nat → Int32) (p0 : Int32) (hX : fI lX11 hX11 x0) (hq_told : fI lTold hTold q_told) (hq_now : fI lNow hNow q_now) : Met l yX11_wasSeen wsX11_wasSeen rm_s11_wasSeen (va_Pc [.ref m0, .int p0] (fun U => U.heap.size = sz ∧ va_P (dC, dI) vwCl [(m0, .inr (11, oX11 ra x0)), (ra 2, .inl (kI, 8, .inl q_told)), (ra 11, .inl (kI, 1019, .inl q_now))] U.heap ∧ kE dC dI kB kI kJ kZ kC kS U ∧ va_D (fun _ => True) [(m0, .inr (11, oX11 ra x0)), (ra 2, .inl (kI, 8, .inl q_told)), (ra 11, .inl (kI, 1019, .inl q_now))])) (va_Qi (fun (r : Int32) (_ : Unit) => iv 0 1 r ∧ (r = 0 ∨ iv 0 20 p0)) (fun _ t => va_P (dC, dI) vwCl [(m0, .inr (11, oX11 ra x0)), (ra 2, .inl (kI, 8, .inl q_told)), (ra 11, .inl (kI, 1019, .inl q_now))] t.heap ∧ va_D (va_A [(m0, .inr (11, oX11 ra x0)), (ra 2, .inl (kI, 8, .inl q_told)), (ra 11, .inl (kI, 1019, .inl q_now))] sz) [(m0, .inr (11, oX11 ra x0)), (ra 2, .inl (kI, 8, .inl q_told)), (ra 11, .inl (kI, 1019, .inl q_now))]) (va_A [(m0, .inr (11, oX11 ra x0)), (ra 2, .inl (kI, 8, .inl q_told)), (ra 11, .inl (kI, 1019, .inl q_now))] sz)) 0 0 (va_A [(m0, .inr (11, oX11 ra x0)), (ra 2, .inl (kI, 8, .inl q_told)), (ra 11, .inl (kI, 1019, .inl q_now))] sz) := by
  refine Met.ofW (cc := cX11_wasSeen) (maxL := 2) (ret := (some .boolean)) (by decide) rfl ?_
  intro p e s m args0 below meth c s₁ B hml hv
  obtain ⟨hargs, hsz, hP, hE, hD0⟩ := hv
  have hx := B.exec
  have hb := B.bytes
  have hr := B.returns
  have hts := atoms_spec (ws := wsX11_wasSeen) B.pre
  have hown : s.vm.findClass RX11 = some m.cls := findClass_of_methodNamed B.named
  have hlocks := B.notSynchronized
  have hK := hE.1
  have hin11 : ∀ w ∈ wsX110, w ∈ wsX11_wasSeen := fun _ h9 => List.mem_cons_of_mem _ (List.mem_append_right _ h9)
  subst hsz
  have hD := hD0.self (sz := s.heap.size)
  generalize hAe : va_A [(m0, .inr (11, oX11 ra x0)), (ra 2, .inl (kI, 8, .inl q_told)), (ra 11, .inl (kI, 1019, .inl q_now))] s.heap.size = A at hD ⊢
  have hA : ∀ q : Nat, s.heap.size ≤ q → A q := fun q h => by rw [← hAe]; exact Or.inr h
  have hS : va_S A s.heap s.heap [] := va_S.rf
  have hP : va_P (dC, dI) vwCl [(m0, .inr (11, oX11 ra x0)), (ra 2, .inl (kI, 8, .inl q_told)), (ra 11, .inl (kI, 1019, .inl q_now))] s.heap := hP
  have hl := lv_entry ([.ref m0, .int p0]) (n := 2) (Nat.le_of_ble_eq_true rfl)
  have hla : entryFrame m args0 2 = entryFrame m ([.ref m0, .int p0] : List Value).toArray 2 := by rw [hargs]
  rw [hla, lg_entry_eq]
  generalize (lg_sl ([.ref m0, .int p0]) ++ List.replicate (2 - (lg_sl ([.ref m0, .int p0])).length) Slot.unset).toArray = ls at hl ⊢
  have hl : lv_has ls 2 [(0, .ref m0), (1, .int p0)] := hl
  have hJ24 : ∀ (H : Heap) (locs : List Loc) (ls : Array Slot), (x0 1 = x0 1) → (x0 10 = x0 10) → va_P (dC, dI) vwCl [(m0, .inr (11, oX11 ra x0)), (ra 2, .inl (kI, 8, .inl q_told)), (ra 11, .inl (kI, 1019, .inl q_now))] H → va_D A [(m0, .inr (11, oX11 ra x0)), (ra 2, .inl (kI, 8, .inl q_told)), (ra 11, .inl (kI, 1019, .inl q_now))] → va_S A s.heap H locs → lv_has ls 2 [(0, .ref m0), (1, .int p0)] → W p l e (headSpec wsX11_wasSeen rm_s11_wasSeen).room s m args0 below meth c H locs (0) (0) (MQ below (va_Qi (fun (r : Int32) (_ : Unit) => iv 0 1 r ∧ (r = 0 ∨ iv 0 20 p0)) (fun _ t => va_P (dC, dI) vwCl [(m0, .inr (11, oX11 ra x0)), (ra 2, .inl (kI, 8, .inl q_told)), (ra 11, .inl (kI, 1019, .inl q_now))] t.heap ∧ va_D A [(m0, .inr (11, oX11 ra x0)), (ra 2, .inl (kI, 8, .inl q_told)), (ra 11, .inl (kI, 1019, .inl q_now))]) A) args0 s 0 0 A) (F0 m 24 ls []) := by
    intro H locs ls htp_24 hfp_24 hP hD hS hl
    refine lv_iconst (v := 0) hx hb dX11_wasSeen_24 ic_0 ?_
    have hP9 := hP
    have hD9 := hD
    exact W.zret (v := 0) (ty := .boolean) hx hb hr rfl (fun t ht hW => ⟨⟨0, (), rfl, ⟨(iv_w ivk_0 (by decide) (by decide)), Or.inl rfl⟩, by rw [ht]; exact hP9, hD9⟩, hS.F ht⟩) hS.2.2 dX11_wasSeen_25
  refine lv_aload_n hx hb dX11_wasSeen_0 rfl (lv_at hl 0 rfl) ?_
  refine lv_iload_n hx hb dX11_wasSeen_1 rfl (lv_at hl 1 rfl) ?_
  obtain ⟨hPc, hDc, hFc, hJn⟩ := cl_a (wc := [(m0, .inr (11, oX11 ra x0)), (ra 2, .inl (kI, 8, .inl q_told))]) (wr := [(ra 11, .inl (kI, 1019, .inl q_now))]) hP hD hS hA [0, 1] [2] rfl rfl (by decide +kernel)
  refine va_calli (va_runV (As := [.int p0]) (rest := []) ⟨hx, hb, hml, hown, hts⟩ (s11_isAddress l dC dI kB kI kJ kZ kC kS s.heap.size m0 ra x0 q_told p0 (hX) (hq_told)) (cwV 1 hts gX11_wasSeen_X11_isAddress rfl rfl rfl (by decide +kernel) ⟨Nat.le_of_ble_eq_true rfl, Nat.le_of_ble_eq_true rfl⟩) ⟨fun a U g mk q => by obtain ⟨q0, q1, qP, qE, qD⟩ := q; exact ⟨q0, q1, qP, kE_call qE, qD⟩, va_recv hK hP (ci := 11) (q0 := 0) rfl rfl, fun U hU hW => ⟨rfl, by rw [hU], by rw [hU]; exact hPc, kE_warm hW hE, hDc.weaken (fun _ _ _ _ => trivial)⟩⟩ rfl rfl hl.1 rfl (lv_room (Nat.le_of_ble_eq_true rfl)) dX11_wasSeen_2 ⟨Nat.le_of_ble_eq_true rfl, Nat.le_of_ble_eq_true rfl⟩) hS (fun q _ h => hFc q h) hFc (fun r1 u t H locs ht hvm w2 hB hz1 hk1 hS => ?_)
  obtain ⟨hP1, hD1⟩ := hB
  try dsimp only at w2
  obtain ⟨hPa, hDa⟩ := hJn (w1 := [(m0, .inr (11, oX11 ra x0)), (ra 2, .inl (kI, 8, .inl q_told))]) hk1 ht hP1 hD1
  clear hP hD hPc hDc hFc hJn hP1 hD1 hk1
  have hP : va_P (dC, dI) vwCl [(ra 11, .inl (kI, 1019, .inl q_now)), (m0, .inr (11, oX11 ra x0)), (ra 2, .inl (kI, 8, .inl q_told))] H := hPa
  have hD : va_D A [(ra 11, .inl (kI, 1019, .inl q_now)), (m0, .inr (11, oX11 ra x0)), (ra 2, .inl (kI, 8, .inl q_told))] := hDa
  clear hPa hDa
  refine W.widen (k := 0) (n := 0) (Nat.le_of_ble_eq_true rfl) (Nat.le_of_ble_eq_true rfl) ?_
  refine lv_if_eq (tgt := 24) hx hb dX11_wasSeen_5 rfl (fun c3 => ?_) (fun c3 => ?_)
  · have b4 : iv 0 0 r1 := iv_eqL c3 ivk_0
    have hPD9 := cl_s (wc := [(m0, .inr (11, oX11 ra x0)), (ra 2, .inl (kI, 8, .inl q_told)), (ra 11, .inl (kI, 1019, .inl q_now))]) hP hD [1, 2, 0] rfl (by decide +kernel)
    exact hJ24 _ _ _ ((show x0 1 = x0 1 from rfl)) ((show x0 10 = x0 10 from rfl)) (hPD9.1) (hPD9.2) hS (lv_sub hl [0, 1] rfl)
  · have b5 : iv 1 1 r1 := iv_neLo c3 w2.1 ivk_0 (by decide) (by decide)
    have b6 : iv 0 20 p0 := (w2.2).resolve_left (iv_ne b5 ivk_0 (by decide))
    refine lv_aload_n hx hb dX11_wasSeen_8 rfl (lv_at hl 0 rfl) ?_
    obtain ⟨hPc, hDc, hFc, hJn⟩ := cl_a (wc := [(m0, .inr (11, oX11 ra x0)), (ra 2, .inl (kI, 8, .inl q_told)), (ra 11, .inl (kI, 1019, .inl q_now))]) (wr := []) hP hD hS hA [1, 2, 0] [] rfl rfl (by decide +kernel)
    refine va_calli (va_runV (As := []) (rest := []) ⟨hx, hb, hml, hown, hts⟩ (s11_allSeen l dC dI kB kI kJ kZ kC kS H.size m0 ra x0 q_told q_now (hX) (hq_told) (hq_now)) (cwV 0 hts gX11_wasSeen_X11_allSeen rfl rfl rfl (by decide +kernel) ⟨Nat.le_of_ble_eq_true rfl, Nat.le_of_ble_eq_true rfl⟩) ⟨fun a U g mk q => by obtain ⟨q0, q1, qP, qE, qD⟩ := q; exact ⟨q0, q1, qP, kE_call qE, qD⟩, va_recv hK hP (ci := 11) (q0 := 1) rfl rfl, fun U hU hW => ⟨rfl, by rw [hU], by rw [hU]; exact hPc, kE_warm hW hE, hDc.weaken (fun _ _ _ _ => trivial)⟩⟩ rfl rfl hl.1 rfl (lv_room (Nat.le_of_ble_eq_true rfl)) dX11_wasSeen_9 ⟨Nat.le_of_ble_eq_true rfl, Nat.le_of_ble_eq_true rfl⟩) hS (fun q _ h => hFc q h) hFc (fun r7 u t H locs ht hvm w8 hB hz1 hk1 hS => ?_)
    obtain ⟨hP1, hD1⟩ := hB
    try dsimp only at w8
    obtain ⟨hPa, hDa⟩ := hJn (w1 := [(m0, .inr (11, oX11 ra x0)), (ra 2, .inl (kI, 8, .inl q_told)), (ra 11, .inl (kI, 1019, .inl q_now))]) hk1 ht hP1 hD1
    clear hP hD hPc hDc hFc hJn hP1 hD1 hk1
    have hP : va_P (dC, dI) vwCl [(m0, .inr (11, oX11 ra x0)), (ra 2, .inl (kI, 8, .inl q_told)), (ra 11, .inl (kI, 1019, .inl q_now))] H := hPa
    have hD : va_D A [(m0, .inr (11, oX11 ra x0)), (ra 2, .inl (kI, 8, .inl q_told)), (ra 11, .inl (kI, 1019, .inl q_now))] := hDa
    clear hPa hDa
    refine W.widen (k := 0) (n := 0) (Nat.le_of_ble_eq_true rfl) (Nat.le_of_ble_eq_true rfl) ?_
    refine lv_iload_n hx hb dX11_wasSeen_12 rfl (lv_at hl 1 rfl) ?_
    refine lv_ishr hx hb dX11_wasSeen_13 ?_
    refine lv_topi (fun z9 _ => ?_)
    refine lv_iconst (v := 1) hx hb dX11_wasSeen_14 ic_1 ?_
    refine lv_iand hx hb dX11_wasSeen_15 ?_
    refine iv_top (a := 0) (b := 1) (iv_and (m := 1) (by decide) (by decide) (by decide)) (fun z10 b11 => ?_)
    refine lv_iconst (v := 1) hx hb dX11_wasSeen_16 ic_1 ?_
    refine lv_icmp_ne (tgt := 24) hx hb dX11_wasSeen_17 rfl (fun c12 => ?_) (fun c12 => ?_)
    · have b13 : iv 0 0 z10 := iv_neHi c12 b11 ivk_1 (by decide) (by decide)
      exact hJ24 _ _ _ ((show x0 1 = x0 1 from rfl)) ((show x0 10 = x0 10 from rfl)) (hP) (hD) hS (lv_sub hl [0, 1] rfl)
    · have b14 : iv 1 1 z10 := iv_eqL c12 ivk_1
      refine lv_iconst (v := 1) hx hb dX11_wasSeen_20 ic_1 ?_
      refine lv_goto (tgt := 25) hx hb dX11_wasSeen_21 rfl ?_
      have hP9 := hP
      have hD9 := hD
      exact W.zret (v := 1) (ty := .boolean) hx hb hr rfl (fun t ht hW => ⟨⟨1, (), rfl, ⟨(iv_w ivk_1 (by decide) (by decide)), Or.inr (b6)⟩, by rw [ht]; exact hP9, hD9⟩, hS.F ht⟩) hS.2.2 dX11_wasSeen_25
def rm_s11_feed : Room := { frames := 0, cells := 0, slots := 0, locals := 0 }
set_option maxHeartbeats 4000000 in
set_option maxRecDepth 100000 in
theorem s11_feed (l : Launch) (dC : Nat → ClassId) (dI : Nat → Nat → Nat) (kB kI kJ kZ kC kS : ClassId) (sz : Nat) (m0 : Nat) (ra : Nat → Nat) (x0 : Nat → Int32) (q_tape : Nat → Int32) (p0 : Int32) (p1 : Int32) (p2 : Int32) (p3 : Int32) (p4 : Int32) (hX : fI lX11 hX11 x0) (hq_tape : fI (fun _ => 0) (fun _ => 255) q_tape) : Met l yX11_feed wsX11_feed rm_s11_feed (va_Pc [.ref m0, .int p0, .int p1, .int p2, .int p3, .int p4] (fun U => U.heap.size = sz ∧ va_P (dC, dI) vwCl [(m0, .inr (11, oX11 ra x0)), (ra 13, .inl (kI, 700, .inl q_tape))] U.heap ∧ kE dC dI kB kI kJ kZ kC kS U ∧ va_D (fun _ => True) [(m0, .inr (11, oX11 ra x0)), (ra 13, .inl (kI, 700, .inl q_tape))])) (va_Qi (fun (r : Int32) (_ : Unit) => iv (-1) 700 r) (fun _ t => ∃ (x0' : Nat → Int32) (q_tape' : Nat → Int32), fI lX11 hX11 x0' ∧ fI (fun _ => 0) (fun _ => 255) q_tape' ∧ (x0' 10 = x0 10) ∧ va_P (dC, dI) vwCl [(m0, .inr (11, oX11 ra x0')), (ra 13, .inl (kI, 700, .inl q_tape'))] t.heap ∧ va_D (va_A [(m0, .inr (11, oX11 ra x0)), (ra 13, .inl (kI, 700, .inl q_tape))] sz) [(m0, .inr (11, oX11 ra x0')), (ra 13, .inl (kI, 700, .inl q_tape'))]) (va_A [(m0, .inr (11, oX11 ra x0)), (ra 13, .inl (kI, 700, .inl q_tape))] sz)) 0 0 (va_A [(m0, .inr (11, oX11 ra x0)), (ra 13, .inl (kI, 700, .inl q_tape))] sz) := by
  refine Met.ofW (cc := cX11_feed) (maxL := 8) (ret := (some .int)) (by decide) rfl ?_
  intro p e s m args0 below meth c s₁ B hml hv
  obtain ⟨hargs, hsz, hP, hE, hD0⟩ := hv
  have hx := B.exec
  have hb := B.bytes
  have hr := B.returns
  have hts := atoms_spec (ws := wsX11_feed) B.pre
  have hown : s.vm.findClass RX11 = some m.cls := findClass_of_methodNamed B.named
  have hlocks := B.notSynchronized
  have hK := hE.1
  have hin11 : ∀ w ∈ wsX110, w ∈ wsX11_feed := fun _ h9 => List.mem_cons_of_mem _ (List.mem_append_right _ h9)
  have hw_0 := hts (.fieldLink RX11 145 "PathProberModel" "taped" "I") (List.mem_of_getElem? (i := 2) rfl)
  have hw_1 := hts (.fieldLink RX11 66 "PathProberModel" "tape" "[I") (List.mem_of_getElem? (i := 3) rfl)
  have hw_2 := hts (.fieldLink RX11 142 "PathProberModel" "code" "I") (List.mem_of_getElem? (i := 1) rfl)
  subst hsz
  have hD := hD0.self (sz := s.heap.size)
  generalize hAe : va_A [(m0, .inr (11, oX11 ra x0)), (ra 13, .inl (kI, 700, .inl q_tape))] s.heap.size = A at hD ⊢
  have hA : ∀ q : Nat, s.heap.size ≤ q → A q := fun q h => by rw [← hAe]; exact Or.inr h
  have hS : va_S A s.heap s.heap [] := va_S.rf
  have hP : va_P (dC, dI) vwCl [(m0, .inr (11, oX11 ra x0)), (ra 13, .inl (kI, 700, .inl q_tape))] s.heap := hP
  have hl := lv_entry ([.ref m0, .int p0, .int p1, .int p2, .int p3, .int p4]) (n := 8) (Nat.le_of_ble_eq_true rfl)
  have hla : entryFrame m args0 8 = entryFrame m ([.ref m0, .int p0, .int p1, .int p2, .int p3, .int p4] : List Value).toArray 8 := by rw [hargs]
  rw [hla, lg_entry_eq]
  generalize (lg_sl ([.ref m0, .int p0, .int p1, .int p2, .int p3, .int p4]) ++ List.replicate (8 - (lg_sl ([.ref m0, .int p0, .int p1, .int p2, .int p3, .int p4])).length) Slot.unset).toArray = ls at hl ⊢
  have hl : lv_has ls 8 [(0, .ref m0), (1, .int p0), (2, .int p1), (3, .int p2), (4, .int p3), (5, .int p4)] := hl
  have hJ23 : ∀ (n : Nat) (y23_0 : Nat → Int32) (g23_1 : Nat → Int32) (v23_loc6 : Int32) (H : Heap) (locs : List Loc) (ls : Array Slot), (20 - v23_loc6.toInt).toNat < n → fI lX11 hX11 y23_0 → fI (fun _ => 0) (fun _ => 255) g23_1 → iv 0 20 v23_loc6 → iv 0 0 (y23_0 0) → iv 20 700 ((x0 1) + 20) → ((y23_0 1).toInt = (x0 1).toInt + v23_loc6.toInt) → ((x0 1).toInt + 20 ≤ 700) → (y23_0 10 = x0 10) → va_P (dC, dI) vwCl [(m0, .inr (11, oX11 ra y23_0)), (ra 13, .inl (kI, 700, .inl g23_1))] H → va_D A [(m0, .inr (11, oX11 ra y23_0)), (ra 13, .inl (kI, 700, .inl g23_1))] → va_S A s.heap H locs → lv_has ls 8 [(0, .ref m0), (1, .int p0), (2, .int p1), (3, .int p2), (4, .int p3), (5, .int p4), (6, .int v23_loc6)] → W p l e (headSpec wsX11_feed rm_s11_feed).room s m args0 below meth c H locs (0) (0) (MQ below (va_Qi (fun (r : Int32) (_ : Unit) => iv (-1) 700 r) (fun _ t => ∃ (x0' : Nat → Int32) (q_tape' : Nat → Int32), fI lX11 hX11 x0' ∧ fI (fun _ => 0) (fun _ => 255) q_tape' ∧ (x0' 10 = x0 10) ∧ va_P (dC, dI) vwCl [(m0, .inr (11, oX11 ra x0')), (ra 13, .inl (kI, 700, .inl q_tape'))] t.heap ∧ va_D A [(m0, .inr (11, oX11 ra x0')), (ra 13, .inl (kI, 700, .inl q_tape'))]) A) args0 s 0 0 A) (F0 m 23 ls []) := by
    intro n
    induction n with
    | zero => intro y23_0 g23_1 v23_loc6 H locs ls hm23; exact absurd hm23 (Nat.not_lt_zero _)
    | succ n ih23 =>
      intro y23_0 g23_1 v23_loc6 H locs ls hm23 hI23_0 hI23_1 h23_3 h23_4 h23_5 hfd_23 hro_23 hfp_23 hP hD hS hl
      refine lv_iload hx hb dX11_feed_23 (lv_at hl 6 rfl) ?_
      refine lv_bipush (v := 20) hx hb dX11_feed_25 bp_20 ?_
      refine lv_icmp_ge (tgt := 120) hx hb dX11_feed_27 rfl (fun c1 => ?_) (fun c1 => ?_)
      · have b2 : iv 20 20 v23_loc6 := iv_leR c1 ivk_20 h23_3 (by decide) (by decide)
        refine lv_aload_n hx hb dX11_feed_120 rfl (lv_at hl 0 rfl) ?_
        refine va_get (D := (dC, dI)) (ci := 11) (v := .int (y23_0 1)) (C := RX11) (T := TX11) (N := 61) hx hb hts hin11 hown hK hP 0 rfl rfl 15 (Nat.le_of_ble_eq_true rfl) hw_0 (fun _ h9 => h9) rfl dX11_feed_121 ?_
        have hP9 := hP
        have hD9 := hD
        exact W.iret (v := y23_0 1) hx hb hr (fun t ht hW => ⟨⟨y23_0 1, (), rfl, (iv_w (hI23_0 1 : iv 0 700 (y23_0 1)) (by decide) (by decide)), y23_0, g23_1, hI23_0, hI23_1, (show y23_0 10 = x0 10 from hfp_23), by rw [ht]; exact hP9, hD9⟩, hS.F ht⟩) hS.2.2 dX11_feed_124
      · have b3 : iv 0 19 v23_loc6 := iv_ltL (Int32.not_le.mp c1) h23_3 ivk_20 (by decide) (by decide)
        refine lv_iload hx hb dX11_feed_30 (lv_at hl 6 rfl) ?_
        refine lv_iconst (v := 4) hx hb dX11_feed_32 ic_4 ?_
        refine lv_icmp_ge (tgt := 40) hx hb dX11_feed_33 rfl (fun c4 => ?_) (fun c4 => ?_)
        · have b5 : iv 4 19 v23_loc6 := iv_leR c4 ivk_4 b3 (by decide) (by decide)
          refine lv_iload hx hb dX11_feed_40 (lv_at hl 6 rfl) ?_
          refine lv_bipush (v := 8) hx hb dX11_feed_42 bp_8 ?_
          refine lv_icmp_ge (tgt := 51) hx hb dX11_feed_44 rfl (fun c6 => ?_) (fun c6 => ?_)
          · have b7 : iv 8 19 v23_loc6 := iv_leR c6 ivk_8 b5 (by decide) (by decide)
            refine lv_iload hx hb dX11_feed_51 (lv_at hl 6 rfl) ?_
            refine lv_bipush (v := 12) hx hb dX11_feed_53 bp_12 ?_
            refine lv_icmp_ge (tgt := 62) hx hb dX11_feed_55 rfl (fun c8 => ?_) (fun c8 => ?_)
            · have b9 : iv 12 19 v23_loc6 := iv_leR c8 ivk_12 b7 (by decide) (by decide)
              refine lv_iload hx hb dX11_feed_62 (lv_at hl 6 rfl) ?_
              refine lv_bipush (v := 16) hx hb dX11_feed_64 bp_16 ?_
              refine lv_icmp_ge (tgt := 74) hx hb dX11_feed_66 rfl (fun c10 => ?_) (fun c10 => ?_)
              · have b11 : iv 16 19 v23_loc6 := iv_leR c10 ivk_16 b9 (by decide) (by decide)
                refine lv_iload hx hb dX11_feed_74 (lv_at hl 5 rfl) ?_
                refine lv_istore (lv' := [(7, .int p4), (0, .ref m0), (1, .int p0), (2, .int p1), (3, .int p2), (4, .int p3), (5, .int p4), (6, .int v23_loc6)]) hx hb dX11_feed_76 hl (Nat.le_of_ble_eq_true rfl) rfl (fun ls hl => ?_)
                have b12 : iv 0 699 (y23_0 1) := feed_699 hfd_23 hro_23 (hI23_0 1 : iv 0 700 (y23_0 1)) (iv_w b11 (by decide) (by decide))
                refine lv_aload_n hx hb dX11_feed_78 rfl (lv_at hl 1 rfl) ?_
                refine va_get (D := (dC, dI)) (ci := 11) (v := .ref (ra 13)) (C := RX11) (T := TX11) (N := 61) hx hb hts hin11 hown hK hP 0 rfl rfl 14 (Nat.le_of_ble_eq_true rfl) hw_1 (fun _ h9 => h9) rfl dX11_feed_79 ?_
                refine lv_aload_n hx hb dX11_feed_82 rfl (lv_at hl 1 rfl) ?_
                refine va_get (D := (dC, dI)) (ci := 11) (v := .int (y23_0 1)) (C := RX11) (T := TX11) (N := 61) hx hb hts hin11 hown hK hP 0 rfl rfl 15 (Nat.le_of_ble_eq_true rfl) hw_0 (fun _ h9 => h9) rfl dX11_feed_83 ?_
                refine lv_iload hx hb dX11_feed_86 (lv_at hl 0 rfl) ?_
                refine lv_bipush (v := 24) hx hb dX11_feed_88 bp_24 ?_
                refine lv_bipush (v := 8) hx hb dX11_feed_90 bp_8 ?_
                refine lv_iload hx hb dX11_feed_92 (lv_at hl 7 rfl) ?_
                refine lv_iconst (v := 4) hx hb dX11_feed_94 ic_4 ?_
                refine lv_irem hx hb dX11_feed_95 (by decide) ?_
                refine iv_top (a := 0) (b := 3) (iv_rem b11 ivk_4 (by decide) (by decide) (by decide) (by decide)) (fun z13 b14 => ?_)
                refine lv_imul hx hb dX11_feed_96 ?_
                refine iv_top (a := 0) (b := 24) (iv_mul ivk_8 b14 (by decide) (by decide) (by decide) (by decide) (by decide)) (fun z15 b16 => ?_)
                refine lv_isub hx hb dX11_feed_97 ?_
                refine iv_top (a := 0) (b := 24) (iv_sub ivk_24 b16 (by decide) (by decide) (by decide) (by decide)) (fun z17 b18 => ?_)
                refine lv_ishr hx hb dX11_feed_98 ?_
                refine lv_topi (fun z19 _ => ?_)
                refine lv_sipush (v := 255) hx hb dX11_feed_99 (by decide) ?_
                refine lv_iand hx hb dX11_feed_102 ?_
                refine iv_top (a := 0) (b := 255) (iv_and (m := 255) (by decide) (by decide) (by decide)) (fun z20 b21 => ?_)
                refine va_iast hx hb hK hP hD hS 1 1 rfl rfl (iv_in b12 (by decide) (by decide)) dX11_feed_103 (fun H locs hPa hDa hS => ?_)
                clear hP hD
                have hP : va_P (dC, dI) vwCl [(m0, .inr (11, oX11 ra y23_0)), (ra 13, .inl (kI, 700, .inl (upd g23_1 (y23_0 1).toNatClampNeg z20)))] H := hPa
                have hD : va_D A [(m0, .inr (11, oX11 ra y23_0)), (ra 13, .inl (kI, 700, .inl (upd g23_1 (y23_0 1).toNatClampNeg z20)))] := hDa
                clear hPa hDa
                have hf23 : fI (fun _ => 0) (fun _ => 255) (upd g23_1 (y23_0 1).toNatClampNeg z20) := fI_u hI23_1 (k := (y23_0 1).toNatClampNeg) (b21)
                generalize (upd g23_1 (y23_0 1).toNatClampNeg z20) = f22 at hP hD hf23
                refine lv_aload_n hx hb dX11_feed_104 rfl (lv_at hl 1 rfl) ?_
                refine lv_dup hx hb dX11_feed_105 rfl ?_
                refine va_get (D := (dC, dI)) (ci := 11) (v := .int (y23_0 1)) (C := RX11) (T := TX11) (N := 61) hx hb hts hin11 hown hK hP 0 rfl rfl 15 (Nat.le_of_ble_eq_true rfl) hw_0 (fun _ h9 => h9) rfl dX11_feed_106 ?_
                refine lv_iconst (v := 1) hx hb dX11_feed_109 ic_1 ?_
                refine lv_iadd hx hb dX11_feed_110 ?_
                have b24 : iv 1 700 ((y23_0 1) + 1) := iv_add b12 ivk_1 (by decide) (by decide) (by decide) (by decide)
                have t25 : ((y23_0 1) + 1).toInt = (y23_0 1).toInt + 1 := iv_addc b12 (by decide) (by decide) (by decide)
                refine va_put (D := (dC, dI)) (ci := 11) (v := .int ((y23_0 1) + 1)) (ty := .int) (C := RX11) (T := TX11) (N := 61) hx hb hts hin11 tyX11 tyX11_ok nmX11 hown hK hP hD hS 0 rfl rfl 15 (by decide) hw_0 (fun _ h9 => h9) rfl (by decide +kernel) rfl rfl (Nat.le_of_ble_eq_true rfl) dX11_feed_111 (fun H locs hPa hDa hS => ?_)
                clear hP hD
                have hP : va_P (dC, dI) vwCl [(m0, .inr (11, oX11 ra (upd y23_0 1 ((y23_0 1) + 1)))), (ra 13, .inl (kI, 700, .inl f22))] H := hPa
                have hD : va_D A [(m0, .inr (11, oX11 ra (upd y23_0 1 ((y23_0 1) + 1)))), (ra 13, .inl (kI, 700, .inl f22))] := hDa
                clear hPa hDa
                refine lv_iinc (v := v23_loc6 + Int32.ofInt 1) (lv' := [(6, .int (v23_loc6 + Int32.ofInt 1)), (7, .int p4), (0, .ref m0), (1, .int p0), (2, .int p1), (3, .int p2), (4, .int p3), (5, .int p4)]) hx hb dX11_feed_114 hl (k := 7) rfl (rfl) (Nat.le_of_ble_eq_true rfl) rfl (fun ls hl => ?_)
                have b26 : iv 17 20 (v23_loc6 + Int32.ofInt 1) := iv_add b11 ivo_1 (by decide) (by decide) (by decide) (by decide)
                have t27 : (v23_loc6 + Int32.ofInt 1).toInt = v23_loc6.toInt + 1 := iv_inc 1 b11 (by decide) (by decide) (by decide) (by decide)
                refine lv_goto (tgt := 23) hx hb dX11_feed_117 rfl ?_
                exact ih23 (upd y23_0 1 ((y23_0 1) + 1)) f22 (v23_loc6 + Int32.ofInt 1) _ _ _ (ms_up (c := 1) (d := 0) b11 hm23 (by decide) (iv_inc 1 b11 (by decide) (by decide) (by decide) (by decide)) (by decide) rfl) ((fI_u hI23_0 (k := 1) ((iv_w b24 (by decide) (by decide))))) (hf23) ((iv_w b26 (by decide) (by decide))) (h23_4) (h23_5) ((show ((y23_0 1) + 1).toInt = (x0 1).toInt + (v23_loc6 + Int32.ofInt 1).toInt from by have q5 := hfd_23; omega)) ((show (x0 1).toInt + 20 ≤ 700 from hro_23)) ((show y23_0 10 = x0 10 from hfp_23)) (hP) (hD) hS (lv_sub hl [2, 3, 4, 5, 6, 7, 0] rfl)
              · have b28 : iv 12 15 v23_loc6 := iv_ltL (Int32.not_le.mp c10) b9 ivk_16 (by decide) (by decide)
                refine lv_iload hx hb dX11_feed_69 (lv_at hl 4 rfl) ?_
                refine lv_goto (tgt := 76) hx hb dX11_feed_71 rfl ?_
                refine lv_istore (lv' := [(7, .int p3), (0, .ref m0), (1, .int p0), (2, .int p1), (3, .int p2), (4, .int p3), (5, .int p4), (6, .int v23_loc6)]) hx hb dX11_feed_76 hl (Nat.le_of_ble_eq_true rfl) rfl (fun ls hl => ?_)
                have b29 : iv 0 699 (y23_0 1) := feed_699 hfd_23 hro_23 (hI23_0 1 : iv 0 700 (y23_0 1)) (iv_w b28 (by decide) (by decide))
                refine lv_aload_n hx hb dX11_feed_78 rfl (lv_at hl 1 rfl) ?_
                refine va_get (D := (dC, dI)) (ci := 11) (v := .ref (ra 13)) (C := RX11) (T := TX11) (N := 61) hx hb hts hin11 hown hK hP 0 rfl rfl 14 (Nat.le_of_ble_eq_true rfl) hw_1 (fun _ h9 => h9) rfl dX11_feed_79 ?_
                refine lv_aload_n hx hb dX11_feed_82 rfl (lv_at hl 1 rfl) ?_
                refine va_get (D := (dC, dI)) (ci := 11) (v := .int (y23_0 1)) (C := RX11) (T := TX11) (N := 61) hx hb hts hin11 hown hK hP 0 rfl rfl 15 (Nat.le_of_ble_eq_true rfl) hw_0 (fun _ h9 => h9) rfl dX11_feed_83 ?_
                refine lv_iload hx hb dX11_feed_86 (lv_at hl 0 rfl) ?_
                refine lv_bipush (v := 24) hx hb dX11_feed_88 bp_24 ?_
                refine lv_bipush (v := 8) hx hb dX11_feed_90 bp_8 ?_
                refine lv_iload hx hb dX11_feed_92 (lv_at hl 7 rfl) ?_
                refine lv_iconst (v := 4) hx hb dX11_feed_94 ic_4 ?_
                refine lv_irem hx hb dX11_feed_95 (by decide) ?_
                refine iv_top (a := 0) (b := 3) (iv_rem b28 ivk_4 (by decide) (by decide) (by decide) (by decide)) (fun z30 b31 => ?_)
                refine lv_imul hx hb dX11_feed_96 ?_
                refine iv_top (a := 0) (b := 24) (iv_mul ivk_8 b31 (by decide) (by decide) (by decide) (by decide) (by decide)) (fun z32 b33 => ?_)
                refine lv_isub hx hb dX11_feed_97 ?_
                refine iv_top (a := 0) (b := 24) (iv_sub ivk_24 b33 (by decide) (by decide) (by decide) (by decide)) (fun z34 b35 => ?_)
                refine lv_ishr hx hb dX11_feed_98 ?_
                refine lv_topi (fun z36 _ => ?_)
                refine lv_sipush (v := 255) hx hb dX11_feed_99 (by decide) ?_
                refine lv_iand hx hb dX11_feed_102 ?_
                refine iv_top (a := 0) (b := 255) (iv_and (m := 255) (by decide) (by decide) (by decide)) (fun z37 b38 => ?_)
                refine va_iast hx hb hK hP hD hS 1 1 rfl rfl (iv_in b29 (by decide) (by decide)) dX11_feed_103 (fun H locs hPa hDa hS => ?_)
                clear hP hD
                have hP : va_P (dC, dI) vwCl [(m0, .inr (11, oX11 ra y23_0)), (ra 13, .inl (kI, 700, .inl (upd g23_1 (y23_0 1).toNatClampNeg z37)))] H := hPa
                have hD : va_D A [(m0, .inr (11, oX11 ra y23_0)), (ra 13, .inl (kI, 700, .inl (upd g23_1 (y23_0 1).toNatClampNeg z37)))] := hDa
                clear hPa hDa
                have hf40 : fI (fun _ => 0) (fun _ => 255) (upd g23_1 (y23_0 1).toNatClampNeg z37) := fI_u hI23_1 (k := (y23_0 1).toNatClampNeg) (b38)
                generalize (upd g23_1 (y23_0 1).toNatClampNeg z37) = f39 at hP hD hf40
                refine lv_aload_n hx hb dX11_feed_104 rfl (lv_at hl 1 rfl) ?_
                refine lv_dup hx hb dX11_feed_105 rfl ?_
                refine va_get (D := (dC, dI)) (ci := 11) (v := .int (y23_0 1)) (C := RX11) (T := TX11) (N := 61) hx hb hts hin11 hown hK hP 0 rfl rfl 15 (Nat.le_of_ble_eq_true rfl) hw_0 (fun _ h9 => h9) rfl dX11_feed_106 ?_
                refine lv_iconst (v := 1) hx hb dX11_feed_109 ic_1 ?_
                refine lv_iadd hx hb dX11_feed_110 ?_
                have b41 : iv 1 700 ((y23_0 1) + 1) := iv_add b29 ivk_1 (by decide) (by decide) (by decide) (by decide)
                have t42 : ((y23_0 1) + 1).toInt = (y23_0 1).toInt + 1 := iv_addc b29 (by decide) (by decide) (by decide)
                refine va_put (D := (dC, dI)) (ci := 11) (v := .int ((y23_0 1) + 1)) (ty := .int) (C := RX11) (T := TX11) (N := 61) hx hb hts hin11 tyX11 tyX11_ok nmX11 hown hK hP hD hS 0 rfl rfl 15 (by decide) hw_0 (fun _ h9 => h9) rfl (by decide +kernel) rfl rfl (Nat.le_of_ble_eq_true rfl) dX11_feed_111 (fun H locs hPa hDa hS => ?_)
                clear hP hD
                have hP : va_P (dC, dI) vwCl [(m0, .inr (11, oX11 ra (upd y23_0 1 ((y23_0 1) + 1)))), (ra 13, .inl (kI, 700, .inl f39))] H := hPa
                have hD : va_D A [(m0, .inr (11, oX11 ra (upd y23_0 1 ((y23_0 1) + 1)))), (ra 13, .inl (kI, 700, .inl f39))] := hDa
                clear hPa hDa
                refine lv_iinc (v := v23_loc6 + Int32.ofInt 1) (lv' := [(6, .int (v23_loc6 + Int32.ofInt 1)), (7, .int p3), (0, .ref m0), (1, .int p0), (2, .int p1), (3, .int p2), (4, .int p3), (5, .int p4)]) hx hb dX11_feed_114 hl (k := 7) rfl (rfl) (Nat.le_of_ble_eq_true rfl) rfl (fun ls hl => ?_)
                have b43 : iv 13 16 (v23_loc6 + Int32.ofInt 1) := iv_add b28 ivo_1 (by decide) (by decide) (by decide) (by decide)
                have t44 : (v23_loc6 + Int32.ofInt 1).toInt = v23_loc6.toInt + 1 := iv_inc 1 b28 (by decide) (by decide) (by decide) (by decide)
                refine lv_goto (tgt := 23) hx hb dX11_feed_117 rfl ?_
                exact ih23 (upd y23_0 1 ((y23_0 1) + 1)) f39 (v23_loc6 + Int32.ofInt 1) _ _ _ (ms_up (c := 1) (d := 0) b28 hm23 (by decide) (iv_inc 1 b28 (by decide) (by decide) (by decide) (by decide)) (by decide) rfl) ((fI_u hI23_0 (k := 1) ((iv_w b41 (by decide) (by decide))))) (hf40) ((iv_w b43 (by decide) (by decide))) (h23_4) (h23_5) ((show ((y23_0 1) + 1).toInt = (x0 1).toInt + (v23_loc6 + Int32.ofInt 1).toInt from by have q5 := hfd_23; omega)) ((show (x0 1).toInt + 20 ≤ 700 from hro_23)) ((show y23_0 10 = x0 10 from hfp_23)) (hP) (hD) hS (lv_sub hl [2, 3, 4, 5, 6, 7, 0] rfl)
            · have b45 : iv 8 11 v23_loc6 := iv_ltL (Int32.not_le.mp c8) b7 ivk_12 (by decide) (by decide)
              refine lv_iload_n hx hb dX11_feed_58 rfl (lv_at hl 3 rfl) ?_
              refine lv_goto (tgt := 76) hx hb dX11_feed_59 rfl ?_
              refine lv_istore (lv' := [(7, .int p2), (0, .ref m0), (1, .int p0), (2, .int p1), (3, .int p2), (4, .int p3), (5, .int p4), (6, .int v23_loc6)]) hx hb dX11_feed_76 hl (Nat.le_of_ble_eq_true rfl) rfl (fun ls hl => ?_)
              have b46 : iv 0 699 (y23_0 1) := feed_699 hfd_23 hro_23 (hI23_0 1 : iv 0 700 (y23_0 1)) (iv_w b45 (by decide) (by decide))
              refine lv_aload_n hx hb dX11_feed_78 rfl (lv_at hl 1 rfl) ?_
              refine va_get (D := (dC, dI)) (ci := 11) (v := .ref (ra 13)) (C := RX11) (T := TX11) (N := 61) hx hb hts hin11 hown hK hP 0 rfl rfl 14 (Nat.le_of_ble_eq_true rfl) hw_1 (fun _ h9 => h9) rfl dX11_feed_79 ?_
              refine lv_aload_n hx hb dX11_feed_82 rfl (lv_at hl 1 rfl) ?_
              refine va_get (D := (dC, dI)) (ci := 11) (v := .int (y23_0 1)) (C := RX11) (T := TX11) (N := 61) hx hb hts hin11 hown hK hP 0 rfl rfl 15 (Nat.le_of_ble_eq_true rfl) hw_0 (fun _ h9 => h9) rfl dX11_feed_83 ?_
              refine lv_iload hx hb dX11_feed_86 (lv_at hl 0 rfl) ?_
              refine lv_bipush (v := 24) hx hb dX11_feed_88 bp_24 ?_
              refine lv_bipush (v := 8) hx hb dX11_feed_90 bp_8 ?_
              refine lv_iload hx hb dX11_feed_92 (lv_at hl 7 rfl) ?_
              refine lv_iconst (v := 4) hx hb dX11_feed_94 ic_4 ?_
              refine lv_irem hx hb dX11_feed_95 (by decide) ?_
              refine iv_top (a := 0) (b := 3) (iv_rem b45 ivk_4 (by decide) (by decide) (by decide) (by decide)) (fun z47 b48 => ?_)
              refine lv_imul hx hb dX11_feed_96 ?_
              refine iv_top (a := 0) (b := 24) (iv_mul ivk_8 b48 (by decide) (by decide) (by decide) (by decide) (by decide)) (fun z49 b50 => ?_)
              refine lv_isub hx hb dX11_feed_97 ?_
              refine iv_top (a := 0) (b := 24) (iv_sub ivk_24 b50 (by decide) (by decide) (by decide) (by decide)) (fun z51 b52 => ?_)
              refine lv_ishr hx hb dX11_feed_98 ?_
              refine lv_topi (fun z53 _ => ?_)
              refine lv_sipush (v := 255) hx hb dX11_feed_99 (by decide) ?_
              refine lv_iand hx hb dX11_feed_102 ?_
              refine iv_top (a := 0) (b := 255) (iv_and (m := 255) (by decide) (by decide) (by decide)) (fun z54 b55 => ?_)
              refine va_iast hx hb hK hP hD hS 1 1 rfl rfl (iv_in b46 (by decide) (by decide)) dX11_feed_103 (fun H locs hPa hDa hS => ?_)
              clear hP hD
              have hP : va_P (dC, dI) vwCl [(m0, .inr (11, oX11 ra y23_0)), (ra 13, .inl (kI, 700, .inl (upd g23_1 (y23_0 1).toNatClampNeg z54)))] H := hPa
              have hD : va_D A [(m0, .inr (11, oX11 ra y23_0)), (ra 13, .inl (kI, 700, .inl (upd g23_1 (y23_0 1).toNatClampNeg z54)))] := hDa
              clear hPa hDa
              have hf57 : fI (fun _ => 0) (fun _ => 255) (upd g23_1 (y23_0 1).toNatClampNeg z54) := fI_u hI23_1 (k := (y23_0 1).toNatClampNeg) (b55)
              generalize (upd g23_1 (y23_0 1).toNatClampNeg z54) = f56 at hP hD hf57
              refine lv_aload_n hx hb dX11_feed_104 rfl (lv_at hl 1 rfl) ?_
              refine lv_dup hx hb dX11_feed_105 rfl ?_
              refine va_get (D := (dC, dI)) (ci := 11) (v := .int (y23_0 1)) (C := RX11) (T := TX11) (N := 61) hx hb hts hin11 hown hK hP 0 rfl rfl 15 (Nat.le_of_ble_eq_true rfl) hw_0 (fun _ h9 => h9) rfl dX11_feed_106 ?_
              refine lv_iconst (v := 1) hx hb dX11_feed_109 ic_1 ?_
              refine lv_iadd hx hb dX11_feed_110 ?_
              have b58 : iv 1 700 ((y23_0 1) + 1) := iv_add b46 ivk_1 (by decide) (by decide) (by decide) (by decide)
              have t59 : ((y23_0 1) + 1).toInt = (y23_0 1).toInt + 1 := iv_addc b46 (by decide) (by decide) (by decide)
              refine va_put (D := (dC, dI)) (ci := 11) (v := .int ((y23_0 1) + 1)) (ty := .int) (C := RX11) (T := TX11) (N := 61) hx hb hts hin11 tyX11 tyX11_ok nmX11 hown hK hP hD hS 0 rfl rfl 15 (by decide) hw_0 (fun _ h9 => h9) rfl (by decide +kernel) rfl rfl (Nat.le_of_ble_eq_true rfl) dX11_feed_111 (fun H locs hPa hDa hS => ?_)
              clear hP hD
              have hP : va_P (dC, dI) vwCl [(m0, .inr (11, oX11 ra (upd y23_0 1 ((y23_0 1) + 1)))), (ra 13, .inl (kI, 700, .inl f56))] H := hPa
              have hD : va_D A [(m0, .inr (11, oX11 ra (upd y23_0 1 ((y23_0 1) + 1)))), (ra 13, .inl (kI, 700, .inl f56))] := hDa
              clear hPa hDa
              refine lv_iinc (v := v23_loc6 + Int32.ofInt 1) (lv' := [(6, .int (v23_loc6 + Int32.ofInt 1)), (7, .int p2), (0, .ref m0), (1, .int p0), (2, .int p1), (3, .int p2), (4, .int p3), (5, .int p4)]) hx hb dX11_feed_114 hl (k := 7) rfl (rfl) (Nat.le_of_ble_eq_true rfl) rfl (fun ls hl => ?_)
              have b60 : iv 9 12 (v23_loc6 + Int32.ofInt 1) := iv_add b45 ivo_1 (by decide) (by decide) (by decide) (by decide)
              have t61 : (v23_loc6 + Int32.ofInt 1).toInt = v23_loc6.toInt + 1 := iv_inc 1 b45 (by decide) (by decide) (by decide) (by decide)
              refine lv_goto (tgt := 23) hx hb dX11_feed_117 rfl ?_
              exact ih23 (upd y23_0 1 ((y23_0 1) + 1)) f56 (v23_loc6 + Int32.ofInt 1) _ _ _ (ms_up (c := 1) (d := 0) b45 hm23 (by decide) (iv_inc 1 b45 (by decide) (by decide) (by decide) (by decide)) (by decide) rfl) ((fI_u hI23_0 (k := 1) ((iv_w b58 (by decide) (by decide))))) (hf57) ((iv_w b60 (by decide) (by decide))) (h23_4) (h23_5) ((show ((y23_0 1) + 1).toInt = (x0 1).toInt + (v23_loc6 + Int32.ofInt 1).toInt from by have q5 := hfd_23; omega)) ((show (x0 1).toInt + 20 ≤ 700 from hro_23)) ((show y23_0 10 = x0 10 from hfp_23)) (hP) (hD) hS (lv_sub hl [2, 3, 4, 5, 6, 7, 0] rfl)
          · have b62 : iv 4 7 v23_loc6 := iv_ltL (Int32.not_le.mp c6) b5 ivk_8 (by decide) (by decide)
            refine lv_iload_n hx hb dX11_feed_47 rfl (lv_at hl 2 rfl) ?_
            refine lv_goto (tgt := 76) hx hb dX11_feed_48 rfl ?_
            refine lv_istore (lv' := [(7, .int p1), (0, .ref m0), (1, .int p0), (2, .int p1), (3, .int p2), (4, .int p3), (5, .int p4), (6, .int v23_loc6)]) hx hb dX11_feed_76 hl (Nat.le_of_ble_eq_true rfl) rfl (fun ls hl => ?_)
            have b63 : iv 0 699 (y23_0 1) := feed_699 hfd_23 hro_23 (hI23_0 1 : iv 0 700 (y23_0 1)) (iv_w b62 (by decide) (by decide))
            refine lv_aload_n hx hb dX11_feed_78 rfl (lv_at hl 1 rfl) ?_
            refine va_get (D := (dC, dI)) (ci := 11) (v := .ref (ra 13)) (C := RX11) (T := TX11) (N := 61) hx hb hts hin11 hown hK hP 0 rfl rfl 14 (Nat.le_of_ble_eq_true rfl) hw_1 (fun _ h9 => h9) rfl dX11_feed_79 ?_
            refine lv_aload_n hx hb dX11_feed_82 rfl (lv_at hl 1 rfl) ?_
            refine va_get (D := (dC, dI)) (ci := 11) (v := .int (y23_0 1)) (C := RX11) (T := TX11) (N := 61) hx hb hts hin11 hown hK hP 0 rfl rfl 15 (Nat.le_of_ble_eq_true rfl) hw_0 (fun _ h9 => h9) rfl dX11_feed_83 ?_
            refine lv_iload hx hb dX11_feed_86 (lv_at hl 0 rfl) ?_
            refine lv_bipush (v := 24) hx hb dX11_feed_88 bp_24 ?_
            refine lv_bipush (v := 8) hx hb dX11_feed_90 bp_8 ?_
            refine lv_iload hx hb dX11_feed_92 (lv_at hl 7 rfl) ?_
            refine lv_iconst (v := 4) hx hb dX11_feed_94 ic_4 ?_
            refine lv_irem hx hb dX11_feed_95 (by decide) ?_
            refine iv_top (a := 0) (b := 3) (iv_rem b62 ivk_4 (by decide) (by decide) (by decide) (by decide)) (fun z64 b65 => ?_)
            refine lv_imul hx hb dX11_feed_96 ?_
            refine iv_top (a := 0) (b := 24) (iv_mul ivk_8 b65 (by decide) (by decide) (by decide) (by decide) (by decide)) (fun z66 b67 => ?_)
            refine lv_isub hx hb dX11_feed_97 ?_
            refine iv_top (a := 0) (b := 24) (iv_sub ivk_24 b67 (by decide) (by decide) (by decide) (by decide)) (fun z68 b69 => ?_)
            refine lv_ishr hx hb dX11_feed_98 ?_
            refine lv_topi (fun z70 _ => ?_)
            refine lv_sipush (v := 255) hx hb dX11_feed_99 (by decide) ?_
            refine lv_iand hx hb dX11_feed_102 ?_
            refine iv_top (a := 0) (b := 255) (iv_and (m := 255) (by decide) (by decide) (by decide)) (fun z71 b72 => ?_)
            refine va_iast hx hb hK hP hD hS 1 1 rfl rfl (iv_in b63 (by decide) (by decide)) dX11_feed_103 (fun H locs hPa hDa hS => ?_)
            clear hP hD
            have hP : va_P (dC, dI) vwCl [(m0, .inr (11, oX11 ra y23_0)), (ra 13, .inl (kI, 700, .inl (upd g23_1 (y23_0 1).toNatClampNeg z71)))] H := hPa
            have hD : va_D A [(m0, .inr (11, oX11 ra y23_0)), (ra 13, .inl (kI, 700, .inl (upd g23_1 (y23_0 1).toNatClampNeg z71)))] := hDa
            clear hPa hDa
            have hf74 : fI (fun _ => 0) (fun _ => 255) (upd g23_1 (y23_0 1).toNatClampNeg z71) := fI_u hI23_1 (k := (y23_0 1).toNatClampNeg) (b72)
            generalize (upd g23_1 (y23_0 1).toNatClampNeg z71) = f73 at hP hD hf74
            refine lv_aload_n hx hb dX11_feed_104 rfl (lv_at hl 1 rfl) ?_
            refine lv_dup hx hb dX11_feed_105 rfl ?_
            refine va_get (D := (dC, dI)) (ci := 11) (v := .int (y23_0 1)) (C := RX11) (T := TX11) (N := 61) hx hb hts hin11 hown hK hP 0 rfl rfl 15 (Nat.le_of_ble_eq_true rfl) hw_0 (fun _ h9 => h9) rfl dX11_feed_106 ?_
            refine lv_iconst (v := 1) hx hb dX11_feed_109 ic_1 ?_
            refine lv_iadd hx hb dX11_feed_110 ?_
            have b75 : iv 1 700 ((y23_0 1) + 1) := iv_add b63 ivk_1 (by decide) (by decide) (by decide) (by decide)
            have t76 : ((y23_0 1) + 1).toInt = (y23_0 1).toInt + 1 := iv_addc b63 (by decide) (by decide) (by decide)
            refine va_put (D := (dC, dI)) (ci := 11) (v := .int ((y23_0 1) + 1)) (ty := .int) (C := RX11) (T := TX11) (N := 61) hx hb hts hin11 tyX11 tyX11_ok nmX11 hown hK hP hD hS 0 rfl rfl 15 (by decide) hw_0 (fun _ h9 => h9) rfl (by decide +kernel) rfl rfl (Nat.le_of_ble_eq_true rfl) dX11_feed_111 (fun H locs hPa hDa hS => ?_)
            clear hP hD
            have hP : va_P (dC, dI) vwCl [(m0, .inr (11, oX11 ra (upd y23_0 1 ((y23_0 1) + 1)))), (ra 13, .inl (kI, 700, .inl f73))] H := hPa
            have hD : va_D A [(m0, .inr (11, oX11 ra (upd y23_0 1 ((y23_0 1) + 1)))), (ra 13, .inl (kI, 700, .inl f73))] := hDa
            clear hPa hDa
            refine lv_iinc (v := v23_loc6 + Int32.ofInt 1) (lv' := [(6, .int (v23_loc6 + Int32.ofInt 1)), (7, .int p1), (0, .ref m0), (1, .int p0), (2, .int p1), (3, .int p2), (4, .int p3), (5, .int p4)]) hx hb dX11_feed_114 hl (k := 7) rfl (rfl) (Nat.le_of_ble_eq_true rfl) rfl (fun ls hl => ?_)
            have b77 : iv 5 8 (v23_loc6 + Int32.ofInt 1) := iv_add b62 ivo_1 (by decide) (by decide) (by decide) (by decide)
            have t78 : (v23_loc6 + Int32.ofInt 1).toInt = v23_loc6.toInt + 1 := iv_inc 1 b62 (by decide) (by decide) (by decide) (by decide)
            refine lv_goto (tgt := 23) hx hb dX11_feed_117 rfl ?_
            exact ih23 (upd y23_0 1 ((y23_0 1) + 1)) f73 (v23_loc6 + Int32.ofInt 1) _ _ _ (ms_up (c := 1) (d := 0) b62 hm23 (by decide) (iv_inc 1 b62 (by decide) (by decide) (by decide) (by decide)) (by decide) rfl) ((fI_u hI23_0 (k := 1) ((iv_w b75 (by decide) (by decide))))) (hf74) ((iv_w b77 (by decide) (by decide))) (h23_4) (h23_5) ((show ((y23_0 1) + 1).toInt = (x0 1).toInt + (v23_loc6 + Int32.ofInt 1).toInt from by have q5 := hfd_23; omega)) ((show (x0 1).toInt + 20 ≤ 700 from hro_23)) ((show y23_0 10 = x0 10 from hfp_23)) (hP) (hD) hS (lv_sub hl [2, 3, 4, 5, 6, 7, 0] rfl)
        · have b79 : iv 0 3 v23_loc6 := iv_ltL (Int32.not_le.mp c4) b3 ivk_4 (by decide) (by decide)
          refine lv_iload_n hx hb dX11_feed_36 rfl (lv_at hl 1 rfl) ?_
          refine lv_goto (tgt := 76) hx hb dX11_feed_37 rfl ?_
          refine lv_istore (lv' := [(7, .int p0), (0, .ref m0), (1, .int p0), (2, .int p1), (3, .int p2), (4, .int p3), (5, .int p4), (6, .int v23_loc6)]) hx hb dX11_feed_76 hl (Nat.le_of_ble_eq_true rfl) rfl (fun ls hl => ?_)
          have b80 : iv 0 699 (y23_0 1) := feed_699 hfd_23 hro_23 (hI23_0 1 : iv 0 700 (y23_0 1)) (iv_w b79 (by decide) (by decide))
          refine lv_aload_n hx hb dX11_feed_78 rfl (lv_at hl 1 rfl) ?_
          refine va_get (D := (dC, dI)) (ci := 11) (v := .ref (ra 13)) (C := RX11) (T := TX11) (N := 61) hx hb hts hin11 hown hK hP 0 rfl rfl 14 (Nat.le_of_ble_eq_true rfl) hw_1 (fun _ h9 => h9) rfl dX11_feed_79 ?_
          refine lv_aload_n hx hb dX11_feed_82 rfl (lv_at hl 1 rfl) ?_
          refine va_get (D := (dC, dI)) (ci := 11) (v := .int (y23_0 1)) (C := RX11) (T := TX11) (N := 61) hx hb hts hin11 hown hK hP 0 rfl rfl 15 (Nat.le_of_ble_eq_true rfl) hw_0 (fun _ h9 => h9) rfl dX11_feed_83 ?_
          refine lv_iload hx hb dX11_feed_86 (lv_at hl 0 rfl) ?_
          refine lv_bipush (v := 24) hx hb dX11_feed_88 bp_24 ?_
          refine lv_bipush (v := 8) hx hb dX11_feed_90 bp_8 ?_
          refine lv_iload hx hb dX11_feed_92 (lv_at hl 7 rfl) ?_
          refine lv_iconst (v := 4) hx hb dX11_feed_94 ic_4 ?_
          refine lv_irem hx hb dX11_feed_95 (by decide) ?_
          refine iv_top (a := 0) (b := 3) (iv_rem b79 ivk_4 (by decide) (by decide) (by decide) (by decide)) (fun z81 b82 => ?_)
          refine lv_imul hx hb dX11_feed_96 ?_
          refine iv_top (a := 0) (b := 24) (iv_mul ivk_8 b82 (by decide) (by decide) (by decide) (by decide) (by decide)) (fun z83 b84 => ?_)
          refine lv_isub hx hb dX11_feed_97 ?_
          refine iv_top (a := 0) (b := 24) (iv_sub ivk_24 b84 (by decide) (by decide) (by decide) (by decide)) (fun z85 b86 => ?_)
          refine lv_ishr hx hb dX11_feed_98 ?_
          refine lv_topi (fun z87 _ => ?_)
          refine lv_sipush (v := 255) hx hb dX11_feed_99 (by decide) ?_
          refine lv_iand hx hb dX11_feed_102 ?_
          refine iv_top (a := 0) (b := 255) (iv_and (m := 255) (by decide) (by decide) (by decide)) (fun z88 b89 => ?_)
          refine va_iast hx hb hK hP hD hS 1 1 rfl rfl (iv_in b80 (by decide) (by decide)) dX11_feed_103 (fun H locs hPa hDa hS => ?_)
          clear hP hD
          have hP : va_P (dC, dI) vwCl [(m0, .inr (11, oX11 ra y23_0)), (ra 13, .inl (kI, 700, .inl (upd g23_1 (y23_0 1).toNatClampNeg z88)))] H := hPa
          have hD : va_D A [(m0, .inr (11, oX11 ra y23_0)), (ra 13, .inl (kI, 700, .inl (upd g23_1 (y23_0 1).toNatClampNeg z88)))] := hDa
          clear hPa hDa
          have hf91 : fI (fun _ => 0) (fun _ => 255) (upd g23_1 (y23_0 1).toNatClampNeg z88) := fI_u hI23_1 (k := (y23_0 1).toNatClampNeg) (b89)
          generalize (upd g23_1 (y23_0 1).toNatClampNeg z88) = f90 at hP hD hf91
          refine lv_aload_n hx hb dX11_feed_104 rfl (lv_at hl 1 rfl) ?_
          refine lv_dup hx hb dX11_feed_105 rfl ?_
          refine va_get (D := (dC, dI)) (ci := 11) (v := .int (y23_0 1)) (C := RX11) (T := TX11) (N := 61) hx hb hts hin11 hown hK hP 0 rfl rfl 15 (Nat.le_of_ble_eq_true rfl) hw_0 (fun _ h9 => h9) rfl dX11_feed_106 ?_
          refine lv_iconst (v := 1) hx hb dX11_feed_109 ic_1 ?_
          refine lv_iadd hx hb dX11_feed_110 ?_
          have b92 : iv 1 700 ((y23_0 1) + 1) := iv_add b80 ivk_1 (by decide) (by decide) (by decide) (by decide)
          have t93 : ((y23_0 1) + 1).toInt = (y23_0 1).toInt + 1 := iv_addc b80 (by decide) (by decide) (by decide)
          refine va_put (D := (dC, dI)) (ci := 11) (v := .int ((y23_0 1) + 1)) (ty := .int) (C := RX11) (T := TX11) (N := 61) hx hb hts hin11 tyX11 tyX11_ok nmX11 hown hK hP hD hS 0 rfl rfl 15 (by decide) hw_0 (fun _ h9 => h9) rfl (by decide +kernel) rfl rfl (Nat.le_of_ble_eq_true rfl) dX11_feed_111 (fun H locs hPa hDa hS => ?_)
          clear hP hD
          have hP : va_P (dC, dI) vwCl [(m0, .inr (11, oX11 ra (upd y23_0 1 ((y23_0 1) + 1)))), (ra 13, .inl (kI, 700, .inl f90))] H := hPa
          have hD : va_D A [(m0, .inr (11, oX11 ra (upd y23_0 1 ((y23_0 1) + 1)))), (ra 13, .inl (kI, 700, .inl f90))] := hDa
          clear hPa hDa
          refine lv_iinc (v := v23_loc6 + Int32.ofInt 1) (lv' := [(6, .int (v23_loc6 + Int32.ofInt 1)), (7, .int p0), (0, .ref m0), (1, .int p0), (2, .int p1), (3, .int p2), (4, .int p3), (5, .int p4)]) hx hb dX11_feed_114 hl (k := 7) rfl (rfl) (Nat.le_of_ble_eq_true rfl) rfl (fun ls hl => ?_)
          have b94 : iv 1 4 (v23_loc6 + Int32.ofInt 1) := iv_add b79 ivo_1 (by decide) (by decide) (by decide) (by decide)
          have t95 : (v23_loc6 + Int32.ofInt 1).toInt = v23_loc6.toInt + 1 := iv_inc 1 b79 (by decide) (by decide) (by decide) (by decide)
          refine lv_goto (tgt := 23) hx hb dX11_feed_117 rfl ?_
          exact ih23 (upd y23_0 1 ((y23_0 1) + 1)) f90 (v23_loc6 + Int32.ofInt 1) _ _ _ (ms_up (c := 1) (d := 0) b79 hm23 (by decide) (iv_inc 1 b79 (by decide) (by decide) (by decide) (by decide)) (by decide) rfl) ((fI_u hI23_0 (k := 1) ((iv_w b92 (by decide) (by decide))))) (hf91) ((iv_w b94 (by decide) (by decide))) (h23_4) (h23_5) ((show ((y23_0 1) + 1).toInt = (x0 1).toInt + (v23_loc6 + Int32.ofInt 1).toInt from by have q5 := hfd_23; omega)) ((show (x0 1).toInt + 20 ≤ 700 from hro_23)) ((show y23_0 10 = x0 10 from hfp_23)) (hP) (hD) hS (lv_sub hl [2, 3, 4, 5, 6, 7, 0] rfl)
  refine lv_aload_n hx hb dX11_feed_0 rfl (lv_at hl 0 rfl) ?_
  refine lv_iconst (v := 0) hx hb dX11_feed_1 ic_0 ?_
  refine va_put (D := (dC, dI)) (ci := 11) (v := .int 0) (ty := .int) (C := RX11) (T := TX11) (N := 61) hx hb hts hin11 tyX11 tyX11_ok nmX11 hown hK hP hD hS 0 rfl rfl 2 (by decide) hw_2 (fun _ h9 => h9) rfl (by decide +kernel) rfl rfl (Nat.le_of_ble_eq_true rfl) dX11_feed_2 (fun H locs hPa hDa hS => ?_)
  clear hP hD
  have hP : va_P (dC, dI) vwCl [(m0, .inr (11, oX11 ra (upd x0 0 0))), (ra 13, .inl (kI, 700, .inl q_tape))] H := hPa
  have hD : va_D A [(m0, .inr (11, oX11 ra (upd x0 0 0))), (ra 13, .inl (kI, 700, .inl q_tape))] := hDa
  clear hPa hDa
  refine lv_aload_n hx hb dX11_feed_5 rfl (lv_at hl 0 rfl) ?_
  refine va_get (D := (dC, dI)) (ci := 11) (v := .int (x0 1)) (C := RX11) (T := TX11) (N := 61) hx hb hts hin11 hown hK hP 0 rfl rfl 15 (Nat.le_of_ble_eq_true rfl) hw_0 (fun _ h9 => h9) rfl dX11_feed_6 ?_
  refine lv_bipush (v := 20) hx hb dX11_feed_9 bp_20 ?_
  refine lv_iadd hx hb dX11_feed_11 ?_
  have b96 : iv 20 720 ((x0 1) + 20) := iv_add (hX 1 : iv 0 700 (x0 1)) ivk_20 (by decide) (by decide) (by decide) (by decide)
  have t97 : ((x0 1) + 20).toInt = (x0 1).toInt + 20 := iv_addc (hX 1 : iv 0 700 (x0 1)) (by decide) (by decide) (by decide)
  refine lv_sipush (v := 700) hx hb dX11_feed_12 (by decide) ?_
  refine lv_icmp_le (tgt := 20) hx hb dX11_feed_15 rfl (fun c98 => ?_) (fun c98 => ?_)
  · have b99 : iv 20 700 ((x0 1) + 20) := iv_leL c98 b96 ivk_700 (by decide) (by decide)
    refine lv_iconst (v := 0) hx hb dX11_feed_20 ic_0 ?_
    refine lv_istore (lv' := [(6, .int 0), (0, .ref m0), (1, .int p0), (2, .int p1), (3, .int p2), (4, .int p3), (5, .int p4)]) hx hb dX11_feed_21 hl (Nat.le_of_ble_eq_true rfl) rfl (fun ls hl => ?_)
    exact hJ23 _ (upd x0 0 0) q_tape 0 _ _ _ (Nat.lt_succ_self _) ((fI_u hX (k := 0) ((iv_w ivk_0 (by decide) (by decide))))) (hq_tape) ((iv_w ivk_0 (by decide) (by decide))) (ivk_0) (b99) ((show (x0 1).toInt = (x0 1).toInt + ((0 : Int32)).toInt from by rw [show ((0 : Int32)).toInt = 0 from by decide]; omega)) ((show (x0 1).toInt + 20 ≤ 700 from room_20 (hX 1 : iv 0 700 (x0 1)) c98)) ((show x0 10 = x0 10 from rfl)) (hP) (hD) hS (lv_sub hl [1, 2, 3, 4, 5, 6, 0] rfl)
  · have b100 : iv 701 720 ((x0 1) + 20) := iv_ltR (Int32.not_le.mp c98) ivk_700 b96 (by decide) (by decide)
    refine lv_iconst (v := (-1)) hx hb dX11_feed_18 ic_m1 ?_
    have hP9 := hP
    have hD9 := hD
    exact W.iret (v := (-1)) hx hb hr (fun t ht hW => ⟨⟨(-1), (), rfl, (iv_w ivk_m1 (by decide) (by decide)), upd x0 0 0, q_tape, (fI_u hX (k := 0) ((iv_w ivk_0 (by decide) (by decide)))), hq_tape, (show x0 10 = x0 10 from rfl), by rw [ht]; exact hP9, hD9⟩, hS.F ht⟩) hS.2.2 dX11_feed_19
def rm_s11_byteAt : Room := { frames := 0, cells := 0, slots := 0, locals := 0 }
set_option maxHeartbeats 4000000 in
set_option maxRecDepth 100000 in
theorem s11_byteAt (l : Launch) (dC : Nat → ClassId) (dI : Nat → Nat → Nat) (kB kI kJ kZ kC kS : ClassId) (sz : Nat) (m0 : Nat) (ra : Nat → Nat) (x0 : Nat → Int32) (q_tape : Nat → Int32) (p0 : Int32) (hX : fI lX11 hX11 x0) (hq_tape : fI (fun _ => 0) (fun _ => 255) q_tape) (hp0 : iv 0 700 p0) : Met l yX11_byteAt wsX11_byteAt rm_s11_byteAt (va_Pc [.ref m0, .int p0] (fun U => U.heap.size = sz ∧ va_P (dC, dI) vwCl [(m0, .inr (11, oX11 ra x0)), (ra 13, .inl (kI, 700, .inl q_tape))] U.heap ∧ kE dC dI kB kI kJ kZ kC kS U ∧ va_D (fun _ => True) [(m0, .inr (11, oX11 ra x0)), (ra 13, .inl (kI, 700, .inl q_tape))])) (va_Qi (fun (r : Int32) (_ : Unit) => r = byA q_tape (x0 3) p0 ∧ iv (-1) 255 r) (fun _ t => (byA q_tape (x0 3) p0 = -1 ∨ iv 0 699 p0) ∧ va_P (dC, dI) vwCl [(m0, .inr (11, oX11 ra x0)), (ra 13, .inl (kI, 700, .inl q_tape))] t.heap ∧ va_D (va_A [(m0, .inr (11, oX11 ra x0)), (ra 13, .inl (kI, 700, .inl q_tape))] sz) [(m0, .inr (11, oX11 ra x0)), (ra 13, .inl (kI, 700, .inl q_tape))]) (va_A [(m0, .inr (11, oX11 ra x0)), (ra 13, .inl (kI, 700, .inl q_tape))] sz)) 0 0 (va_A [(m0, .inr (11, oX11 ra x0)), (ra 13, .inl (kI, 700, .inl q_tape))] sz) := by
  refine Met.ofW (cc := cX11_byteAt) (maxL := 2) (ret := (some .int)) (by decide) rfl ?_
  intro p e s m args0 below meth c s₁ B hml hv
  obtain ⟨hargs, hsz, hP, hE, hD0⟩ := hv
  have hx := B.exec
  have hb := B.bytes
  have hr := B.returns
  have hts := atoms_spec (ws := wsX11_byteAt) B.pre
  have hown : s.vm.findClass RX11 = some m.cls := findClass_of_methodNamed B.named
  have hlocks := B.notSynchronized
  have hK := hE.1
  have hin11 : ∀ w ∈ wsX110, w ∈ wsX11_byteAt := fun _ h9 => List.mem_cons_of_mem _ (List.mem_append_right _ h9)
  have hw_0 := hts (.fieldLink RX11 148 "PathProberModel" "textSize" "I") (List.mem_of_getElem? (i := 1) rfl)
  have hw_1 := hts (.fieldLink RX11 66 "PathProberModel" "tape" "[I") (List.mem_of_getElem? (i := 2) rfl)
  subst hsz
  have hD := hD0.self (sz := s.heap.size)
  generalize hAe : va_A [(m0, .inr (11, oX11 ra x0)), (ra 13, .inl (kI, 700, .inl q_tape))] s.heap.size = A at hD ⊢
  have hA : ∀ q : Nat, s.heap.size ≤ q → A q := fun q h => by rw [← hAe]; exact Or.inr h
  have hS : va_S A s.heap s.heap [] := va_S.rf
  have hP : va_P (dC, dI) vwCl [(m0, .inr (11, oX11 ra x0)), (ra 13, .inl (kI, 700, .inl q_tape))] s.heap := hP
  have hl := lv_entry ([.ref m0, .int p0]) (n := 2) (Nat.le_of_ble_eq_true rfl)
  have hla : entryFrame m args0 2 = entryFrame m ([.ref m0, .int p0] : List Value).toArray 2 := by rw [hargs]
  rw [hla, lg_entry_eq]
  generalize (lg_sl ([.ref m0, .int p0]) ++ List.replicate (2 - (lg_sl ([.ref m0, .int p0])).length) Slot.unset).toArray = ls at hl ⊢
  have hl : lv_has ls 2 [(0, .ref m0), (1, .int p0)] := hl
  refine lv_iload_n hx hb dX11_byteAt_0 rfl (lv_at hl 1 rfl) ?_
  refine lv_aload_n hx hb dX11_byteAt_1 rfl (lv_at hl 0 rfl) ?_
  refine va_get (D := (dC, dI)) (ci := 11) (v := .int (x0 3)) (C := RX11) (T := TX11) (N := 61) hx hb hts hin11 hown hK hP 0 rfl rfl 17 (Nat.le_of_ble_eq_true rfl) hw_0 (fun _ h9 => h9) rfl dX11_byteAt_2 ?_
  refine lv_icmp_ge (tgt := 17) hx hb dX11_byteAt_5 rfl (fun c1 => ?_) (fun c1 => ?_)
  · refine lv_iconst (v := (-1)) hx hb dX11_byteAt_17 ic_m1 ?_
    have hP9 := hP
    have hD9 := hD
    exact W.iret (v := (-1)) hx hb hr (fun t ht hW => ⟨⟨(-1), (), rfl, ⟨byA_f c1, (iv_w ivk_m1 (by decide) (by decide))⟩, (show byA q_tape (x0 3) p0 = -1 ∨ iv 0 699 p0 from byA_699 (hX 3 : iv 0 700 (x0 3)) hp0), by rw [ht]; exact hP9, hD9⟩, hS.F ht⟩) hS.2.2 dX11_byteAt_18
  · have b2 : iv 0 699 p0 := iv_ltL (Int32.not_le.mp c1) hp0 (hX 3 : iv 0 700 (x0 3)) (by decide) (by decide)
    have b3 : iv 1 700 (x0 3) := iv_ltR (Int32.not_le.mp c1) hp0 (hX 3 : iv 0 700 (x0 3)) (by decide) (by decide)
    refine lv_aload_n hx hb dX11_byteAt_8 rfl (lv_at hl 0 rfl) ?_
    refine va_get (D := (dC, dI)) (ci := 11) (v := .ref (ra 13)) (C := RX11) (T := TX11) (N := 61) hx hb hts hin11 hown hK hP 0 rfl rfl 14 (Nat.le_of_ble_eq_true rfl) hw_1 (fun _ h9 => h9) rfl dX11_byteAt_9 ?_
    refine lv_iload_n hx hb dX11_byteAt_12 rfl (lv_at hl 1 rfl) ?_
    refine va_iald hx hb hK hP 1 1 rfl rfl (iv_in b2 (by decide) (by decide)) dX11_byteAt_13 ?_
    have b4 : iv 0 255 (q_tape p0.toNatClampNeg) := hq_tape _
    refine lv_goto (tgt := 18) hx hb dX11_byteAt_14 rfl ?_
    have hP9 := hP
    have hD9 := hD
    exact W.iret (v := q_tape p0.toNatClampNeg) hx hb hr (fun t ht hW => ⟨⟨q_tape p0.toNatClampNeg, (), rfl, ⟨byA_t (Int32.not_le.mp c1), (iv_w b4 (by decide) (by decide))⟩, (show byA q_tape (x0 3) p0 = -1 ∨ iv 0 699 p0 from byA_699 (iv_w b3 (by decide) (by decide)) hp0), by rw [ht]; exact hP9, hD9⟩, hS.F ht⟩) hS.2.2 dX11_byteAt_18
def rm_s11_stepOn : Room := { frames := 1, cells := 0, slots := 0, locals := 21 }
set_option maxHeartbeats 4000000 in
set_option maxRecDepth 100000 in
theorem s11_stepOn (l : Launch) (dC : Nat → ClassId) (dI : Nat → Nat → Nat) (kB kI kJ kZ kC kS : ClassId) (sz : Nat) (m0 : Nat) (ra : Nat → Nat) (x0 : Nat → Int32) (q_tape : Nat → Int32) (tT : Nat → Int32) (nN : Int32) (uS : StT) (hX : fI lX11 hX11 x0) (hq_tape : fI (fun _ => 0) (fun _ => 255) q_tape) (hRr : x0 3 = nN) (hSt : StpT tT nN x0 uS) (hTQ : tT = q_tape) : Met l yX11_stepOn wsX11_stepOn rm_s11_stepOn (va_Pc [.ref m0] (fun U => U.heap.size = sz ∧ va_P (dC, dI) vwCl [(m0, .inr (11, oX11 ra x0)), (ra 13, .inl (kI, 700, .inl q_tape))] U.heap ∧ kE dC dI kB kI kJ kZ kC kS U ∧ va_D (fun _ => True) [(m0, .inr (11, oX11 ra x0)), (ra 13, .inl (kI, 700, .inl q_tape))])) (va_Qv (fun (_ : Unit) => True) (fun _ t => ∃ (x0' : Nat → Int32), fI lX11 hX11 x0' ∧ ((x0 2).toInt ≤ (x0' 2).toInt) ∧ (x0' 3 = x0 3) ∧ (x0' 4 = 0 ∨ (x0 2).toInt + 1 ≤ (x0' 2).toInt) ∧ (RRd tT nN x0' (uS)) ∧ (x0' 1 = x0 1) ∧ (x0' 10 = x0 10) ∧ va_P (dC, dI) vwCl [(m0, .inr (11, oX11 ra x0')), (ra 13, .inl (kI, 700, .inl q_tape))] t.heap ∧ va_D (va_A [(m0, .inr (11, oX11 ra x0)), (ra 13, .inl (kI, 700, .inl q_tape))] sz) [(m0, .inr (11, oX11 ra x0')), (ra 13, .inl (kI, 700, .inl q_tape))]) (va_A [(m0, .inr (11, oX11 ra x0)), (ra 13, .inl (kI, 700, .inl q_tape))] sz)) 0 0 (va_A [(m0, .inr (11, oX11 ra x0)), (ra 13, .inl (kI, 700, .inl q_tape))] sz) := by
  refine Met.ofW (cc := cX11_stepOn) (maxL := 2) (ret := none) (by decide) rfl ?_
  intro p e s m args0 below meth c s₁ B hml hv
  obtain ⟨hargs, hsz, hP, hE, hD0⟩ := hv
  have hx := B.exec
  have hb := B.bytes
  have hr := B.returns
  have hts := atoms_spec (ws := wsX11_stepOn) B.pre
  have hown : s.vm.findClass RX11 = some m.cls := findClass_of_methodNamed B.named
  have hlocks := B.notSynchronized
  have hK := hE.1
  have hin11 : ∀ w ∈ wsX110, w ∈ wsX11_stepOn := fun _ h9 => List.mem_cons_of_mem _ (List.mem_append_right _ h9)
  have hw_0 := hts (.fieldLink RX11 151 "PathProberModel" "at" "I") (List.mem_of_getElem? (i := 1) rfl)
  have hw_1 := hts (.fieldLink RX11 161 "PathProberModel" "token" "I") (List.mem_of_getElem? (i := 3) rfl)
  have hw_2 := hts (.fieldLink RX11 181 "PathProberModel" "stops" "I") (List.mem_of_getElem? (i := 10) rfl)
  have hw_3 := hts (.constant RX11 174 (100000)) (List.mem_of_getElem? (i := 5) rfl)
  have hw_4 := hts (.fieldLink RX11 171 "PathProberModel" "number" "I") (List.mem_of_getElem? (i := 4) rfl)
  have hw_5 := hts (.methodLink RX11 175 Lib.Math.min.name) (List.mem_of_getElem? (i := 6) rfl)
  have hw_6 := hts (.static Lib.Math.min.name) (List.mem_of_getElem? (i := 7) rfl)
  have hw_7 := hts (.initialized "java/lang/Math") (List.mem_of_getElem? (i := 8) rfl)
  have hw_8 := hts (.code Lib.Math.min.name Lib.Math.min.code 2 (some .int)) (List.mem_of_getElem? (i := 9) rfl)
  have hw_9 := hts (.fieldLink RX11 158 "PathProberModel" "begins" "I") (List.mem_of_getElem? (i := 2) rfl)
  subst hsz
  have hD := hD0.self (sz := s.heap.size)
  generalize hAe : va_A [(m0, .inr (11, oX11 ra x0)), (ra 13, .inl (kI, 700, .inl q_tape))] s.heap.size = A at hD ⊢
  have hA : ∀ q : Nat, s.heap.size ≤ q → A q := fun q h => by rw [← hAe]; exact Or.inr h
  have hS : va_S A s.heap s.heap [] := va_S.rf
  have hP : va_P (dC, dI) vwCl [(m0, .inr (11, oX11 ra x0)), (ra 13, .inl (kI, 700, .inl q_tape))] s.heap := hP
  have hl := lv_entry ([.ref m0]) (n := 2) (Nat.le_of_ble_eq_true rfl)
  have hla : entryFrame m args0 2 = entryFrame m ([.ref m0] : List Value).toArray 2 := by rw [hargs]
  rw [hla, lg_entry_eq]
  generalize (lg_sl ([.ref m0]) ++ List.replicate (2 - (lg_sl ([.ref m0])).length) Slot.unset).toArray = ls at hl ⊢
  have hl : lv_has ls 2 [(0, .ref m0)] := hl
  have hJ123 : ∀ (n : Nat) (y123_0 : Nat → Int32) (v123_loc1 : Int32) (H : Heap) (locs : List Loc) (ls : Array Slot), (700 - (y123_0 2).toInt).toNat < n → fI lX11 hX11 y123_0 → iv 48 57 v123_loc1 → iv 0 699 (y123_0 6) → ((x0 2).toInt + 1 ≤ (y123_0 2).toInt ∨ ¬ isDg (byA q_tape (x0 3) (y123_0 2)) = 0) → (R123 tT nN x0 y123_0) → ((x0 2).toInt ≤ (y123_0 2).toInt) → (y123_0 3 = x0 3) → (y123_0 1 = x0 1) → (y123_0 10 = x0 10) → va_P (dC, dI) vwCl [(m0, .inr (11, oX11 ra y123_0)), (ra 13, .inl (kI, 700, .inl q_tape))] H → va_D A [(m0, .inr (11, oX11 ra y123_0)), (ra 13, .inl (kI, 700, .inl q_tape))] → va_S A s.heap H locs → lv_has ls 2 [(0, .ref m0), (1, .int v123_loc1)] → W p l e (headSpec wsX11_stepOn rm_s11_stepOn).room s m args0 below meth c H locs (0) (0) (MQ below (va_Qv (fun (_ : Unit) => True) (fun _ t => ∃ (x0' : Nat → Int32), fI lX11 hX11 x0' ∧ ((x0 2).toInt ≤ (x0' 2).toInt) ∧ (x0' 3 = x0 3) ∧ (x0' 4 = 0 ∨ (x0 2).toInt + 1 ≤ (x0' 2).toInt) ∧ (RRd tT nN x0' (uS)) ∧ (x0' 1 = x0 1) ∧ (x0' 10 = x0 10) ∧ va_P (dC, dI) vwCl [(m0, .inr (11, oX11 ra x0')), (ra 13, .inl (kI, 700, .inl q_tape))] t.heap ∧ va_D A [(m0, .inr (11, oX11 ra x0')), (ra 13, .inl (kI, 700, .inl q_tape))]) A) args0 s 0 0 A) (F0 m 123 ls []) := by
    intro n
    induction n with
    | zero => intro y123_0 v123_loc1 H locs ls hm123; exact absurd hm123 (Nat.not_lt_zero _)
    | succ n ih123 =>
      intro y123_0 v123_loc1 H locs ls hm123 hI123_0 h123_2 h123_3 hsx_123 hk_123 hat_123 hts_123 htp_123 hfp_123 hP hD hS hl
      refine lv_aload_n hx hb dX11_stepOn_123 rfl (lv_at hl 0 rfl) ?_
      refine lv_aload_n hx hb dX11_stepOn_124 rfl (lv_at hl 0 rfl) ?_
      refine va_get (D := (dC, dI)) (ci := 11) (v := .int (y123_0 2)) (C := RX11) (T := TX11) (N := 61) hx hb hts hin11 hown hK hP 0 rfl rfl 16 (Nat.le_of_ble_eq_true rfl) hw_0 (fun _ h9 => h9) rfl dX11_stepOn_125 ?_
      obtain ⟨hPc, hDc, hFc, hJn⟩ := cl_a (wc := [(m0, .inr (11, oX11 ra y123_0)), (ra 13, .inl (kI, 700, .inl q_tape))]) (wr := []) hP hD hS hA [0, 1] [] rfl rfl (by decide +kernel)
      refine va_calli (va_runV (As := [.int (y123_0 2)]) (rest := []) ⟨hx, hb, hml, hown, hts⟩ (s11_byteAt l dC dI kB kI kJ kZ kC kS H.size m0 ra y123_0 q_tape (y123_0 2) (hI123_0) (hq_tape) ((hI123_0 2 : iv 0 700 (y123_0 2)))) (cwV 1 hts gX11_stepOn_X11_byteAt rfl rfl rfl (by decide +kernel) ⟨Nat.le_of_ble_eq_true rfl, Nat.le_of_ble_eq_true rfl⟩) ⟨fun a U g mk q => by obtain ⟨q0, q1, qP, qE, qD⟩ := q; exact ⟨q0, q1, qP, kE_call qE, qD⟩, va_recv hK hP (ci := 11) (q0 := 0) rfl rfl, fun U hU hW => ⟨rfl, by rw [hU], by rw [hU]; exact hPc, kE_warm hW hE, hDc.weaken (fun _ _ _ _ => trivial)⟩⟩ rfl rfl hl.1 rfl (lv_room (Nat.le_of_ble_eq_true rfl)) dX11_stepOn_128 ⟨Nat.le_of_ble_eq_true rfl, Nat.le_of_ble_eq_true rfl⟩) hS (fun q _ h => hFc q h) hFc (fun r1 u t H locs ht hvm w2 hB hz1 hk1 hS => ?_)
      obtain ⟨hq3, hP1, hD1⟩ := hB
      try dsimp only at w2
      obtain ⟨hPa, hDa⟩ := hJn (w1 := [(m0, .inr (11, oX11 ra y123_0)), (ra 13, .inl (kI, 700, .inl q_tape))]) hk1 ht hP1 hD1
      clear hP hD hPc hDc hFc hJn hP1 hD1 hk1
      have hP : va_P (dC, dI) vwCl [(m0, .inr (11, oX11 ra y123_0)), (ra 13, .inl (kI, 700, .inl q_tape))] H := hPa
      have hD : va_D A [(m0, .inr (11, oX11 ra y123_0)), (ra 13, .inl (kI, 700, .inl q_tape))] := hDa
      clear hPa hDa
      refine W.widen (k := 0) (n := 0) (Nat.le_of_ble_eq_true rfl) (Nat.le_of_ble_eq_true rfl) ?_
      obtain ⟨w2, b4⟩ := w2
      subst w2
      obtain ⟨hPc, hDc, hFc, hJn⟩ := cl_a (wc := []) (wr := [(m0, .inr (11, oX11 ra y123_0)), (ra 13, .inl (kI, 700, .inl q_tape))]) hP hD hS hA [] [0, 1] rfl rfl (by decide +kernel)
      refine va_calli (va_runS (As := [.int (byA q_tape (y123_0 3) (y123_0 2))]) (rest := []) ⟨hx, hb, hml, hown, hts⟩ (s11_isDigit l dC dI kB kI kJ kZ kC kS H.size (byA q_tape (y123_0 3) (y123_0 2))) (va_cwS 1 hts gX11_stepOn_X11_isDigit rfl rfl rfl (by decide +kernel) ⟨Nat.le_of_ble_eq_true rfl, Nat.le_of_ble_eq_true rfl⟩) ⟨fun a U g mk q => by obtain ⟨q0, q1, qP, qE, qD⟩ := q; exact ⟨q0, q1, qP, kE_call qE, qD⟩, fun U hU hW => ⟨rfl, by rw [hU], by rw [hU]; exact hPc, kE_warm hW hE, hDc.weaken (fun _ _ _ _ => trivial)⟩⟩ rfl rfl hl.1 rfl (lv_room (Nat.le_of_ble_eq_true rfl)) dX11_stepOn_131 ⟨Nat.le_of_ble_eq_true rfl, Nat.le_of_ble_eq_true rfl⟩) hS (fun q _ h => hFc q h) hFc (fun r5 u t H locs ht hvm w6 hB hz1 hk1 hS => ?_)
      obtain ⟨hP1, hD1⟩ := hB
      try dsimp only at w6
      obtain ⟨hPa, hDa⟩ := hJn (w1 := []) hk1 ht hP1 hD1
      clear hP hD hPc hDc hFc hJn hP1 hD1 hk1
      have hP : va_P (dC, dI) vwCl [(m0, .inr (11, oX11 ra y123_0)), (ra 13, .inl (kI, 700, .inl q_tape))] H := hPa
      have hD : va_D A [(m0, .inr (11, oX11 ra y123_0)), (ra 13, .inl (kI, 700, .inl q_tape))] := hDa
      clear hPa hDa
      refine W.widen (k := 0) (n := 0) (Nat.le_of_ble_eq_true rfl) (Nat.le_of_ble_eq_true rfl) ?_
      obtain ⟨w6, b7⟩ := w6
      subst w6
      refine lv_if_eq (tgt := 178) hx hb dX11_stepOn_134 rfl (fun c8 => ?_) (fun c8 => ?_)
      · have b9 : iv 0 0 (isDg (byA q_tape (y123_0 3) (y123_0 2))) := iv_eqL c8 ivk_0
        have hst10 : (x0 2).toInt + 1 ≤ (y123_0 2).toInt := hsx_123.resolve_right (fun w => w (by have q := c8; rw [hts_123] at q; exact q))
        refine lv_aload_n hx hb dX11_stepOn_178 rfl (lv_at hl 0 rfl) ?_
        refine lv_iconst (v := 2) hx hb dX11_stepOn_179 ic_2 ?_
        refine va_put (D := (dC, dI)) (ci := 11) (v := .int 2) (ty := .int) (C := RX11) (T := TX11) (N := 61) hx hb hts hin11 tyX11 tyX11_ok nmX11 hown hK hP hD hS 0 rfl rfl 18 (by decide) hw_1 (fun _ h9 => h9) rfl (by decide +kernel) rfl rfl (Nat.le_of_ble_eq_true rfl) dX11_stepOn_180 (fun H locs hPa hDa hS => ?_)
        clear hP hD
        have hP : va_P (dC, dI) vwCl [(m0, .inr (11, oX11 ra (upd y123_0 4 2))), (ra 13, .inl (kI, 700, .inl q_tape))] H := hPa
        have hD : va_D A [(m0, .inr (11, oX11 ra (upd y123_0 4 2))), (ra 13, .inl (kI, 700, .inl q_tape))] := hDa
        clear hPa hDa
        refine lv_goto (tgt := 211) hx hb dX11_stepOn_183 rfl ?_
        refine lv_aload_n hx hb dX11_stepOn_211 rfl (lv_at hl 0 rfl) ?_
        refine lv_aload_n hx hb dX11_stepOn_212 rfl (lv_at hl 0 rfl) ?_
        refine va_get (D := (dC, dI)) (ci := 11) (v := .int (y123_0 2)) (C := RX11) (T := TX11) (N := 61) hx hb hts hin11 hown hK hP 0 rfl rfl 16 (Nat.le_of_ble_eq_true rfl) hw_0 (fun _ h9 => h9) rfl dX11_stepOn_213 ?_
        refine va_put (D := (dC, dI)) (ci := 11) (v := .int (y123_0 2)) (ty := .int) (C := RX11) (T := TX11) (N := 61) hx hb hts hin11 tyX11 tyX11_ok nmX11 hown hK hP hD hS 0 rfl rfl 21 (by decide) hw_2 (fun _ h9 => h9) rfl (by decide +kernel) rfl rfl (Nat.le_of_ble_eq_true rfl) dX11_stepOn_216 (fun H locs hPa hDa hS => ?_)
        clear hP hD
        have hP : va_P (dC, dI) vwCl [(m0, .inr (11, oX11 ra (upd (upd y123_0 4 2) 7 (y123_0 2)))), (ra 13, .inl (kI, 700, .inl q_tape))] H := hPa
        have hD : va_D A [(m0, .inr (11, oX11 ra (upd (upd y123_0 4 2) 7 (y123_0 2)))), (ra 13, .inl (kI, 700, .inl q_tape))] := hDa
        clear hPa hDa
        have hP9 := hP
        have hD9 := hD
        exact W.vret hx hb hr (fun t ht hW => ⟨⟨(), rfl, trivial, upd (upd y123_0 4 2) 7 (y123_0 2), (fI_u (fI_u hI123_0 (k := 4) ((iv_w ivk_2 (by decide) (by decide)))) (k := 7) ((hI123_0 2 : iv 0 700 (y123_0 2)))), (show (x0 2).toInt ≤ (y123_0 2).toInt from by omega), (show y123_0 3 = x0 3 from hts_123), (show 2 = 0 ∨ (x0 2).toInt + 1 ≤ (y123_0 2).toInt from Or.inr (by omega)), (by subst hTQ; exact rs_d hRr hSt (hX 2 : iv 0 700 (x0 2)) hk_123 (iv_w h123_3 (by decide) (by decide)) (hI123_0 2 : iv 0 700 (y123_0 2)) c8), (show y123_0 1 = x0 1 from htp_123), (show y123_0 10 = x0 10 from hfp_123), by rw [ht]; exact hP9, hD9⟩, hS.F ht⟩) hS.2.2 dX11_stepOn_219
      · have b11 : iv 1 1 (isDg (byA q_tape (y123_0 3) (y123_0 2))) := iv_neLo c8 b7 ivk_0 (by decide) (by decide)
        have b12 : iv 48 57 (byA q_tape (y123_0 3) (y123_0 2)) := isDg_iv (iv_ne b11 ivk_0 (by decide))
        have b13 : iv 0 699 (y123_0 2) := (hq3).resolve_left (iv_ne b12 ivk_m1 (by decide))
        refine lv_aload_n hx hb dX11_stepOn_137 rfl (lv_at hl 0 rfl) ?_
        refine lv_ldc hx hb hown hw_3 dX11_stepOn_138 ?_
        refine lv_bipush (v := 10) hx hb dX11_stepOn_140 bp_10 ?_
        refine lv_aload_n hx hb dX11_stepOn_142 rfl (lv_at hl 0 rfl) ?_
        refine va_get (D := (dC, dI)) (ci := 11) (v := .int (y123_0 5)) (C := RX11) (T := TX11) (N := 61) hx hb hts hin11 hown hK hP 0 rfl rfl 19 (Nat.le_of_ble_eq_true rfl) hw_4 (fun _ h9 => h9) rfl dX11_stepOn_143 ?_
        refine lv_imul hx hb dX11_stepOn_146 ?_
        refine lv_aload_n hx hb dX11_stepOn_147 rfl (lv_at hl 0 rfl) ?_
        refine lv_aload_n hx hb dX11_stepOn_148 rfl (lv_at hl 0 rfl) ?_
        refine va_get (D := (dC, dI)) (ci := 11) (v := .int (y123_0 2)) (C := RX11) (T := TX11) (N := 61) hx hb hts hin11 hown hK hP 0 rfl rfl 16 (Nat.le_of_ble_eq_true rfl) hw_0 (fun _ h9 => h9) rfl dX11_stepOn_149 ?_
        obtain ⟨hPc, hDc, hFc, hJn⟩ := cl_a (wc := [(m0, .inr (11, oX11 ra y123_0)), (ra 13, .inl (kI, 700, .inl q_tape))]) (wr := []) hP hD hS hA [0, 1] [] rfl rfl (by decide +kernel)
        refine va_calli (va_runV (As := [.int (y123_0 2)]) (rest := [.int (10 * (y123_0 5)), .int 100000, .ref m0]) ⟨hx, hb, hml, hown, hts⟩ (s11_byteAt l dC dI kB kI kJ kZ kC kS H.size m0 ra y123_0 q_tape (y123_0 2) (hI123_0) (hq_tape) ((iv_w b13 (by decide) (by decide)))) (cwV 1 hts gX11_stepOn_X11_byteAt rfl rfl rfl (by decide +kernel) ⟨Nat.le_of_ble_eq_true rfl, Nat.le_of_ble_eq_true rfl⟩) ⟨fun a U g mk q => by obtain ⟨q0, q1, qP, qE, qD⟩ := q; exact ⟨q0, q1, qP, kE_call qE, qD⟩, va_recv hK hP (ci := 11) (q0 := 0) rfl rfl, fun U hU hW => ⟨rfl, by rw [hU], by rw [hU]; exact hPc, kE_warm hW hE, hDc.weaken (fun _ _ _ _ => trivial)⟩⟩ rfl rfl hl.1 rfl (lv_room (Nat.le_of_ble_eq_true rfl)) dX11_stepOn_152 ⟨Nat.le_of_ble_eq_true rfl, Nat.le_of_ble_eq_true rfl⟩) hS (fun q _ h => hFc q h) hFc (fun r14 u t H locs ht hvm w15 hB hz1 hk1 hS => ?_)
        obtain ⟨hq16, hP1, hD1⟩ := hB
        try dsimp only at w15
        obtain ⟨hPa, hDa⟩ := hJn (w1 := [(m0, .inr (11, oX11 ra y123_0)), (ra 13, .inl (kI, 700, .inl q_tape))]) hk1 ht hP1 hD1
        clear hP hD hPc hDc hFc hJn hP1 hD1 hk1
        have hP : va_P (dC, dI) vwCl [(m0, .inr (11, oX11 ra y123_0)), (ra 13, .inl (kI, 700, .inl q_tape))] H := hPa
        have hD : va_D A [(m0, .inr (11, oX11 ra y123_0)), (ra 13, .inl (kI, 700, .inl q_tape))] := hDa
        clear hPa hDa
        refine W.widen (k := 0) (n := 0) (Nat.le_of_ble_eq_true rfl) (Nat.le_of_ble_eq_true rfl) ?_
        obtain ⟨w15, b17⟩ := w15
        subst w15
        refine lv_iadd hx hb dX11_stepOn_155 ?_
        refine lv_bipush (v := 48) hx hb dX11_stepOn_156 bp_48 ?_
        refine lv_isub hx hb dX11_stepOn_158 ?_
        refine va_mmin hx hb (by rw [hml]; exact hl.1.symm) hown hw_5 hw_6 hw_7 hw_8 (Nat.le_of_ble_eq_true rfl) (Nat.le_of_ble_eq_true rfl) (Nat.le_of_ble_eq_true rfl) (Nat.le_of_ble_eq_true rfl) dX11_stepOn_159 ?_
        refine lv_topi (fun z18 e19 => ?_)
        refine va_put (D := (dC, dI)) (ci := 11) (v := .int z18) (ty := .int) (C := RX11) (T := TX11) (N := 61) hx hb hts hin11 tyX11 tyX11_ok nmX11 hown hK hP hD hS 0 rfl rfl 19 (by decide) hw_4 (fun _ h9 => h9) rfl (by decide +kernel) rfl rfl (Nat.le_of_ble_eq_true rfl) dX11_stepOn_162 (fun H locs hPa hDa hS => ?_)
        clear hP hD
        have hP : va_P (dC, dI) vwCl [(m0, .inr (11, oX11 ra (upd y123_0 5 z18))), (ra 13, .inl (kI, 700, .inl q_tape))] H := hPa
        have hD : va_D A [(m0, .inr (11, oX11 ra (upd y123_0 5 z18))), (ra 13, .inl (kI, 700, .inl q_tape))] := hDa
        clear hPa hDa
        refine lv_aload_n hx hb dX11_stepOn_165 rfl (lv_at hl 0 rfl) ?_
        refine lv_dup hx hb dX11_stepOn_166 rfl ?_
        refine va_get (D := (dC, dI)) (ci := 11) (v := .int (y123_0 2)) (C := RX11) (T := TX11) (N := 61) hx hb hts hin11 hown hK hP 0 rfl rfl 16 (Nat.le_of_ble_eq_true rfl) hw_0 (fun _ h9 => h9) rfl dX11_stepOn_167 ?_
        refine lv_iconst (v := 1) hx hb dX11_stepOn_170 ic_1 ?_
        refine lv_iadd hx hb dX11_stepOn_171 ?_
        have b20 : iv 1 700 ((y123_0 2) + 1) := iv_add b13 ivk_1 (by decide) (by decide) (by decide) (by decide)
        have t21 : ((y123_0 2) + 1).toInt = (y123_0 2).toInt + 1 := iv_addc b13 (by decide) (by decide) (by decide)
        refine va_put (D := (dC, dI)) (ci := 11) (v := .int ((y123_0 2) + 1)) (ty := .int) (C := RX11) (T := TX11) (N := 61) hx hb hts hin11 tyX11 tyX11_ok nmX11 hown hK hP hD hS 0 rfl rfl 16 (by decide) hw_0 (fun _ h9 => h9) rfl (by decide +kernel) rfl rfl (Nat.le_of_ble_eq_true rfl) dX11_stepOn_172 (fun H locs hPa hDa hS => ?_)
        clear hP hD
        have hP : va_P (dC, dI) vwCl [(m0, .inr (11, oX11 ra (upd (upd y123_0 5 z18) 2 ((y123_0 2) + 1)))), (ra 13, .inl (kI, 700, .inl q_tape))] H := hPa
        have hD : va_D A [(m0, .inr (11, oX11 ra (upd (upd y123_0 5 z18) 2 ((y123_0 2) + 1)))), (ra 13, .inl (kI, 700, .inl q_tape))] := hDa
        clear hPa hDa
        refine lv_goto (tgt := 123) hx hb dX11_stepOn_175 rfl ?_
        exact ih123 (upd (upd y123_0 5 z18) 2 ((y123_0 2) + 1)) v123_loc1 _ _ _ (ms_up (c := 1) (d := 0) b13 hm123 (by decide) (iv_addc b13 (by decide) (by decide) (by decide)) (by decide) rfl) ((fI_u (fI_u hI123_0 (k := 5) ((iv_t z18))) (k := 2) ((iv_w b20 (by decide) (by decide))))) (h123_2) (h123_3) ((show (x0 2).toInt + 1 ≤ ((y123_0 2) + 1).toInt ∨ ¬ isDg (byA q_tape (x0 3) ((y123_0 2) + 1)) = 0 from Or.inl (by have q := hat_123; omega))) ((by subst hTQ; exact rs_123s hRr hk_123 (iv_w h123_3 (by decide) (by decide)) (iv_w b13 (by decide) (by decide)) c8 e19)) ((show (x0 2).toInt ≤ ((y123_0 2) + 1).toInt from by omega)) ((show y123_0 3 = x0 3 from hts_123)) ((show y123_0 1 = x0 1 from htp_123)) ((show y123_0 10 = x0 10 from hfp_123)) (hP) (hD) hS (lv_sub hl [0, 1] rfl)
  have hJ76 : ∀ (n : Nat) (y76_0 : Nat → Int32) (v76_loc1 : Int32) (H : Heap) (locs : List Loc) (ls : Array Slot), (700 - (y76_0 2).toInt).toNat < n → fI lX11 hX11 y76_0 → iv 97 122 v76_loc1 → iv 0 699 (y76_0 6) → ((x0 2).toInt + 1 ≤ (y76_0 2).toInt ∨ ¬ isLt (byA q_tape (x0 3) (y76_0 2)) = 0) → (R76 tT nN x0 y76_0) → ((x0 2).toInt ≤ (y76_0 2).toInt) → (y76_0 3 = x0 3) → (y76_0 1 = x0 1) → (y76_0 10 = x0 10) → va_P (dC, dI) vwCl [(m0, .inr (11, oX11 ra y76_0)), (ra 13, .inl (kI, 700, .inl q_tape))] H → va_D A [(m0, .inr (11, oX11 ra y76_0)), (ra 13, .inl (kI, 700, .inl q_tape))] → va_S A s.heap H locs → lv_has ls 2 [(0, .ref m0), (1, .int v76_loc1)] → W p l e (headSpec wsX11_stepOn rm_s11_stepOn).room s m args0 below meth c H locs (0) (0) (MQ below (va_Qv (fun (_ : Unit) => True) (fun _ t => ∃ (x0' : Nat → Int32), fI lX11 hX11 x0' ∧ ((x0 2).toInt ≤ (x0' 2).toInt) ∧ (x0' 3 = x0 3) ∧ (x0' 4 = 0 ∨ (x0 2).toInt + 1 ≤ (x0' 2).toInt) ∧ (RRd tT nN x0' (uS)) ∧ (x0' 1 = x0 1) ∧ (x0' 10 = x0 10) ∧ va_P (dC, dI) vwCl [(m0, .inr (11, oX11 ra x0')), (ra 13, .inl (kI, 700, .inl q_tape))] t.heap ∧ va_D A [(m0, .inr (11, oX11 ra x0')), (ra 13, .inl (kI, 700, .inl q_tape))]) A) args0 s 0 0 A) (F0 m 76 ls []) := by
    intro n
    induction n with
    | zero => intro y76_0 v76_loc1 H locs ls hm76; exact absurd hm76 (Nat.not_lt_zero _)
    | succ n ih76 =>
      intro y76_0 v76_loc1 H locs ls hm76 hI76_0 h76_2 h76_3 hsx_76 hk_76 hat_76 hts_76 htp_76 hfp_76 hP hD hS hl
      refine lv_aload_n hx hb dX11_stepOn_76 rfl (lv_at hl 0 rfl) ?_
      refine lv_aload_n hx hb dX11_stepOn_77 rfl (lv_at hl 0 rfl) ?_
      refine va_get (D := (dC, dI)) (ci := 11) (v := .int (y76_0 2)) (C := RX11) (T := TX11) (N := 61) hx hb hts hin11 hown hK hP 0 rfl rfl 16 (Nat.le_of_ble_eq_true rfl) hw_0 (fun _ h9 => h9) rfl dX11_stepOn_78 ?_
      obtain ⟨hPc, hDc, hFc, hJn⟩ := cl_a (wc := [(m0, .inr (11, oX11 ra y76_0)), (ra 13, .inl (kI, 700, .inl q_tape))]) (wr := []) hP hD hS hA [0, 1] [] rfl rfl (by decide +kernel)
      refine va_calli (va_runV (As := [.int (y76_0 2)]) (rest := []) ⟨hx, hb, hml, hown, hts⟩ (s11_byteAt l dC dI kB kI kJ kZ kC kS H.size m0 ra y76_0 q_tape (y76_0 2) (hI76_0) (hq_tape) ((hI76_0 2 : iv 0 700 (y76_0 2)))) (cwV 1 hts gX11_stepOn_X11_byteAt rfl rfl rfl (by decide +kernel) ⟨Nat.le_of_ble_eq_true rfl, Nat.le_of_ble_eq_true rfl⟩) ⟨fun a U g mk q => by obtain ⟨q0, q1, qP, qE, qD⟩ := q; exact ⟨q0, q1, qP, kE_call qE, qD⟩, va_recv hK hP (ci := 11) (q0 := 0) rfl rfl, fun U hU hW => ⟨rfl, by rw [hU], by rw [hU]; exact hPc, kE_warm hW hE, hDc.weaken (fun _ _ _ _ => trivial)⟩⟩ rfl rfl hl.1 rfl (lv_room (Nat.le_of_ble_eq_true rfl)) dX11_stepOn_81 ⟨Nat.le_of_ble_eq_true rfl, Nat.le_of_ble_eq_true rfl⟩) hS (fun q _ h => hFc q h) hFc (fun r22 u t H locs ht hvm w23 hB hz1 hk1 hS => ?_)
      obtain ⟨hq24, hP1, hD1⟩ := hB
      try dsimp only at w23
      obtain ⟨hPa, hDa⟩ := hJn (w1 := [(m0, .inr (11, oX11 ra y76_0)), (ra 13, .inl (kI, 700, .inl q_tape))]) hk1 ht hP1 hD1
      clear hP hD hPc hDc hFc hJn hP1 hD1 hk1
      have hP : va_P (dC, dI) vwCl [(m0, .inr (11, oX11 ra y76_0)), (ra 13, .inl (kI, 700, .inl q_tape))] H := hPa
      have hD : va_D A [(m0, .inr (11, oX11 ra y76_0)), (ra 13, .inl (kI, 700, .inl q_tape))] := hDa
      clear hPa hDa
      refine W.widen (k := 0) (n := 0) (Nat.le_of_ble_eq_true rfl) (Nat.le_of_ble_eq_true rfl) ?_
      obtain ⟨w23, b25⟩ := w23
      subst w23
      obtain ⟨hPc, hDc, hFc, hJn⟩ := cl_a (wc := []) (wr := [(m0, .inr (11, oX11 ra y76_0)), (ra 13, .inl (kI, 700, .inl q_tape))]) hP hD hS hA [] [0, 1] rfl rfl (by decide +kernel)
      refine va_calli (va_runS (As := [.int (byA q_tape (y76_0 3) (y76_0 2))]) (rest := []) ⟨hx, hb, hml, hown, hts⟩ (s11_isLetter l dC dI kB kI kJ kZ kC kS H.size (byA q_tape (y76_0 3) (y76_0 2))) (va_cwS 1 hts gX11_stepOn_X11_isLetter rfl rfl rfl (by decide +kernel) ⟨Nat.le_of_ble_eq_true rfl, Nat.le_of_ble_eq_true rfl⟩) ⟨fun a U g mk q => by obtain ⟨q0, q1, qP, qE, qD⟩ := q; exact ⟨q0, q1, qP, kE_call qE, qD⟩, fun U hU hW => ⟨rfl, by rw [hU], by rw [hU]; exact hPc, kE_warm hW hE, hDc.weaken (fun _ _ _ _ => trivial)⟩⟩ rfl rfl hl.1 rfl (lv_room (Nat.le_of_ble_eq_true rfl)) dX11_stepOn_84 ⟨Nat.le_of_ble_eq_true rfl, Nat.le_of_ble_eq_true rfl⟩) hS (fun q _ h => hFc q h) hFc (fun r26 u t H locs ht hvm w27 hB hz1 hk1 hS => ?_)
      obtain ⟨hP1, hD1⟩ := hB
      try dsimp only at w27
      obtain ⟨hPa, hDa⟩ := hJn (w1 := []) hk1 ht hP1 hD1
      clear hP hD hPc hDc hFc hJn hP1 hD1 hk1
      have hP : va_P (dC, dI) vwCl [(m0, .inr (11, oX11 ra y76_0)), (ra 13, .inl (kI, 700, .inl q_tape))] H := hPa
      have hD : va_D A [(m0, .inr (11, oX11 ra y76_0)), (ra 13, .inl (kI, 700, .inl q_tape))] := hDa
      clear hPa hDa
      refine W.widen (k := 0) (n := 0) (Nat.le_of_ble_eq_true rfl) (Nat.le_of_ble_eq_true rfl) ?_
      obtain ⟨w27, b28⟩ := w27
      subst w27
      refine lv_if_eq (tgt := 103) hx hb dX11_stepOn_87 rfl (fun c29 => ?_) (fun c29 => ?_)
      · have b30 : iv 0 0 (isLt (byA q_tape (y76_0 3) (y76_0 2))) := iv_eqL c29 ivk_0
        have hst31 : (x0 2).toInt + 1 ≤ (y76_0 2).toInt := hsx_76.resolve_right (fun w => w (by have q := c29; rw [hts_76] at q; exact q))
        refine lv_aload_n hx hb dX11_stepOn_103 rfl (lv_at hl 0 rfl) ?_
        refine lv_iconst (v := 1) hx hb dX11_stepOn_104 ic_1 ?_
        refine va_put (D := (dC, dI)) (ci := 11) (v := .int 1) (ty := .int) (C := RX11) (T := TX11) (N := 61) hx hb hts hin11 tyX11 tyX11_ok nmX11 hown hK hP hD hS 0 rfl rfl 18 (by decide) hw_1 (fun _ h9 => h9) rfl (by decide +kernel) rfl rfl (Nat.le_of_ble_eq_true rfl) dX11_stepOn_105 (fun H locs hPa hDa hS => ?_)
        clear hP hD
        have hP : va_P (dC, dI) vwCl [(m0, .inr (11, oX11 ra (upd y76_0 4 1))), (ra 13, .inl (kI, 700, .inl q_tape))] H := hPa
        have hD : va_D A [(m0, .inr (11, oX11 ra (upd y76_0 4 1))), (ra 13, .inl (kI, 700, .inl q_tape))] := hDa
        clear hPa hDa
        refine lv_goto (tgt := 211) hx hb dX11_stepOn_108 rfl ?_
        refine lv_aload_n hx hb dX11_stepOn_211 rfl (lv_at hl 0 rfl) ?_
        refine lv_aload_n hx hb dX11_stepOn_212 rfl (lv_at hl 0 rfl) ?_
        refine va_get (D := (dC, dI)) (ci := 11) (v := .int (y76_0 2)) (C := RX11) (T := TX11) (N := 61) hx hb hts hin11 hown hK hP 0 rfl rfl 16 (Nat.le_of_ble_eq_true rfl) hw_0 (fun _ h9 => h9) rfl dX11_stepOn_213 ?_
        refine va_put (D := (dC, dI)) (ci := 11) (v := .int (y76_0 2)) (ty := .int) (C := RX11) (T := TX11) (N := 61) hx hb hts hin11 tyX11 tyX11_ok nmX11 hown hK hP hD hS 0 rfl rfl 21 (by decide) hw_2 (fun _ h9 => h9) rfl (by decide +kernel) rfl rfl (Nat.le_of_ble_eq_true rfl) dX11_stepOn_216 (fun H locs hPa hDa hS => ?_)
        clear hP hD
        have hP : va_P (dC, dI) vwCl [(m0, .inr (11, oX11 ra (upd (upd y76_0 4 1) 7 (y76_0 2)))), (ra 13, .inl (kI, 700, .inl q_tape))] H := hPa
        have hD : va_D A [(m0, .inr (11, oX11 ra (upd (upd y76_0 4 1) 7 (y76_0 2)))), (ra 13, .inl (kI, 700, .inl q_tape))] := hDa
        clear hPa hDa
        have hP9 := hP
        have hD9 := hD
        exact W.vret hx hb hr (fun t ht hW => ⟨⟨(), rfl, trivial, upd (upd y76_0 4 1) 7 (y76_0 2), (fI_u (fI_u hI76_0 (k := 4) ((iv_w ivk_1 (by decide) (by decide)))) (k := 7) ((hI76_0 2 : iv 0 700 (y76_0 2)))), (show (x0 2).toInt ≤ (y76_0 2).toInt from by omega), (show y76_0 3 = x0 3 from hts_76), (show 1 = 0 ∨ (x0 2).toInt + 1 ≤ (y76_0 2).toInt from Or.inr (by omega)), (by subst hTQ; exact rs_w hRr hSt (hX 2 : iv 0 700 (x0 2)) hk_76 (iv_w h76_3 (by decide) (by decide)) (hI76_0 2 : iv 0 700 (y76_0 2)) c29), (show y76_0 1 = x0 1 from htp_76), (show y76_0 10 = x0 10 from hfp_76), by rw [ht]; exact hP9, hD9⟩, hS.F ht⟩) hS.2.2 dX11_stepOn_219
      · have b32 : iv 1 1 (isLt (byA q_tape (y76_0 3) (y76_0 2))) := iv_neLo c29 b28 ivk_0 (by decide) (by decide)
        have b33 : iv 97 122 (byA q_tape (y76_0 3) (y76_0 2)) := isLt_iv (iv_ne b32 ivk_0 (by decide))
        have b34 : iv 0 699 (y76_0 2) := (hq24).resolve_left (iv_ne b33 ivk_m1 (by decide))
        refine lv_aload_n hx hb dX11_stepOn_90 rfl (lv_at hl 0 rfl) ?_
        refine lv_dup hx hb dX11_stepOn_91 rfl ?_
        refine va_get (D := (dC, dI)) (ci := 11) (v := .int (y76_0 2)) (C := RX11) (T := TX11) (N := 61) hx hb hts hin11 hown hK hP 0 rfl rfl 16 (Nat.le_of_ble_eq_true rfl) hw_0 (fun _ h9 => h9) rfl dX11_stepOn_92 ?_
        refine lv_iconst (v := 1) hx hb dX11_stepOn_95 ic_1 ?_
        refine lv_iadd hx hb dX11_stepOn_96 ?_
        have b35 : iv 1 700 ((y76_0 2) + 1) := iv_add b34 ivk_1 (by decide) (by decide) (by decide) (by decide)
        have t36 : ((y76_0 2) + 1).toInt = (y76_0 2).toInt + 1 := iv_addc b34 (by decide) (by decide) (by decide)
        refine va_put (D := (dC, dI)) (ci := 11) (v := .int ((y76_0 2) + 1)) (ty := .int) (C := RX11) (T := TX11) (N := 61) hx hb hts hin11 tyX11 tyX11_ok nmX11 hown hK hP hD hS 0 rfl rfl 16 (by decide) hw_0 (fun _ h9 => h9) rfl (by decide +kernel) rfl rfl (Nat.le_of_ble_eq_true rfl) dX11_stepOn_97 (fun H locs hPa hDa hS => ?_)
        clear hP hD
        have hP : va_P (dC, dI) vwCl [(m0, .inr (11, oX11 ra (upd y76_0 2 ((y76_0 2) + 1)))), (ra 13, .inl (kI, 700, .inl q_tape))] H := hPa
        have hD : va_D A [(m0, .inr (11, oX11 ra (upd y76_0 2 ((y76_0 2) + 1)))), (ra 13, .inl (kI, 700, .inl q_tape))] := hDa
        clear hPa hDa
        refine lv_goto (tgt := 76) hx hb dX11_stepOn_100 rfl ?_
        exact ih76 (upd y76_0 2 ((y76_0 2) + 1)) v76_loc1 _ _ _ (ms_up (c := 1) (d := 0) b34 hm76 (by decide) (iv_addc b34 (by decide) (by decide) (by decide)) (by decide) rfl) ((fI_u hI76_0 (k := 2) ((iv_w b35 (by decide) (by decide))))) (h76_2) (h76_3) ((show (x0 2).toInt + 1 ≤ ((y76_0 2) + 1).toInt ∨ ¬ isLt (byA q_tape (x0 3) ((y76_0 2) + 1)) = 0 from Or.inl (by have q := hat_76; omega))) ((by subst hTQ; exact rs_76s hRr hk_76 (iv_w b34 (by decide) (by decide)) c29)) ((show (x0 2).toInt ≤ ((y76_0 2) + 1).toInt from by omega)) ((show y76_0 3 = x0 3 from hts_76)) ((show y76_0 1 = x0 1 from htp_76)) ((show y76_0 10 = x0 10 from hfp_76)) (hP) (hD) hS (lv_sub hl [0, 1] rfl)
  have hJ0 : ∀ (n : Nat) (y0_0 : Nat → Int32) (H : Heap) (locs : List Loc) (ls : Array Slot), (700 - (y0_0 2).toInt).toNat < n → fI lX11 hX11 y0_0 → (R0 tT nN x0 y0_0) → ((x0 2).toInt ≤ (y0_0 2).toInt) → (y0_0 3 = x0 3) → (y0_0 1 = x0 1) → (y0_0 10 = x0 10) → va_P (dC, dI) vwCl [(m0, .inr (11, oX11 ra y0_0)), (ra 13, .inl (kI, 700, .inl q_tape))] H → va_D A [(m0, .inr (11, oX11 ra y0_0)), (ra 13, .inl (kI, 700, .inl q_tape))] → va_S A s.heap H locs → lv_has ls 2 [(0, .ref m0)] → W p l e (headSpec wsX11_stepOn rm_s11_stepOn).room s m args0 below meth c H locs (0) (0) (MQ below (va_Qv (fun (_ : Unit) => True) (fun _ t => ∃ (x0' : Nat → Int32), fI lX11 hX11 x0' ∧ ((x0 2).toInt ≤ (x0' 2).toInt) ∧ (x0' 3 = x0 3) ∧ (x0' 4 = 0 ∨ (x0 2).toInt + 1 ≤ (x0' 2).toInt) ∧ (RRd tT nN x0' (uS)) ∧ (x0' 1 = x0 1) ∧ (x0' 10 = x0 10) ∧ va_P (dC, dI) vwCl [(m0, .inr (11, oX11 ra x0')), (ra 13, .inl (kI, 700, .inl q_tape))] t.heap ∧ va_D A [(m0, .inr (11, oX11 ra x0')), (ra 13, .inl (kI, 700, .inl q_tape))]) A) args0 s 0 0 A) (F0 m 0 ls []) := by
    intro n
    induction n with
    | zero => intro y0_0 H locs ls hm0; exact absurd hm0 (Nat.not_lt_zero _)
    | succ n ih0 =>
      intro y0_0 H locs ls hm0 hI0_0 hk_0 hat_0 hts_0 htp_0 hfp_0 hP hD hS hl
      refine lv_aload_n hx hb dX11_stepOn_0 rfl (lv_at hl 0 rfl) ?_
      refine lv_aload_n hx hb dX11_stepOn_1 rfl (lv_at hl 0 rfl) ?_
      refine va_get (D := (dC, dI)) (ci := 11) (v := .int (y0_0 2)) (C := RX11) (T := TX11) (N := 61) hx hb hts hin11 hown hK hP 0 rfl rfl 16 (Nat.le_of_ble_eq_true rfl) hw_0 (fun _ h9 => h9) rfl dX11_stepOn_2 ?_
      obtain ⟨hPc, hDc, hFc, hJn⟩ := cl_a (wc := [(m0, .inr (11, oX11 ra y0_0)), (ra 13, .inl (kI, 700, .inl q_tape))]) (wr := []) hP hD hS hA [0, 1] [] rfl rfl (by decide +kernel)
      refine va_calli (va_runV (As := [.int (y0_0 2)]) (rest := []) ⟨hx, hb, hml, hown, hts⟩ (s11_byteAt l dC dI kB kI kJ kZ kC kS H.size m0 ra y0_0 q_tape (y0_0 2) (hI0_0) (hq_tape) ((hI0_0 2 : iv 0 700 (y0_0 2)))) (cwV 1 hts gX11_stepOn_X11_byteAt rfl rfl rfl (by decide +kernel) ⟨Nat.le_of_ble_eq_true rfl, Nat.le_of_ble_eq_true rfl⟩) ⟨fun a U g mk q => by obtain ⟨q0, q1, qP, qE, qD⟩ := q; exact ⟨q0, q1, qP, kE_call qE, qD⟩, va_recv hK hP (ci := 11) (q0 := 0) rfl rfl, fun U hU hW => ⟨rfl, by rw [hU], by rw [hU]; exact hPc, kE_warm hW hE, hDc.weaken (fun _ _ _ _ => trivial)⟩⟩ rfl rfl hl.1 rfl (lv_room (Nat.le_of_ble_eq_true rfl)) dX11_stepOn_5 ⟨Nat.le_of_ble_eq_true rfl, Nat.le_of_ble_eq_true rfl⟩) hS (fun q _ h => hFc q h) hFc (fun r37 u t H locs ht hvm w38 hB hz1 hk1 hS => ?_)
      obtain ⟨hq39, hP1, hD1⟩ := hB
      try dsimp only at w38
      obtain ⟨hPa, hDa⟩ := hJn (w1 := [(m0, .inr (11, oX11 ra y0_0)), (ra 13, .inl (kI, 700, .inl q_tape))]) hk1 ht hP1 hD1
      clear hP hD hPc hDc hFc hJn hP1 hD1 hk1
      have hP : va_P (dC, dI) vwCl [(m0, .inr (11, oX11 ra y0_0)), (ra 13, .inl (kI, 700, .inl q_tape))] H := hPa
      have hD : va_D A [(m0, .inr (11, oX11 ra y0_0)), (ra 13, .inl (kI, 700, .inl q_tape))] := hDa
      clear hPa hDa
      refine W.widen (k := 0) (n := 0) (Nat.le_of_ble_eq_true rfl) (Nat.le_of_ble_eq_true rfl) ?_
      obtain ⟨w38, b40⟩ := w38
      subst w38
      refine lv_bipush (v := 32) hx hb dX11_stepOn_8 bp_32 ?_
      refine lv_icmp_eq (tgt := 26) hx hb dX11_stepOn_10 rfl (fun c41 => ?_) (fun c41 => ?_)
      · have b42 : iv 32 32 (byA q_tape (y0_0 3) (y0_0 2)) := iv_eqL c41 ivk_32
        have b43 : iv 0 699 (y0_0 2) := (hq39).resolve_left (iv_ne b42 ivk_m1 (by decide))
        refine lv_aload_n hx hb dX11_stepOn_26 rfl (lv_at hl 0 rfl) ?_
        refine lv_dup hx hb dX11_stepOn_27 rfl ?_
        refine va_get (D := (dC, dI)) (ci := 11) (v := .int (y0_0 2)) (C := RX11) (T := TX11) (N := 61) hx hb hts hin11 hown hK hP 0 rfl rfl 16 (Nat.le_of_ble_eq_true rfl) hw_0 (fun _ h9 => h9) rfl dX11_stepOn_28 ?_
        refine lv_iconst (v := 1) hx hb dX11_stepOn_31 ic_1 ?_
        refine lv_iadd hx hb dX11_stepOn_32 ?_
        have b44 : iv 1 700 ((y0_0 2) + 1) := iv_add b43 ivk_1 (by decide) (by decide) (by decide) (by decide)
        have t45 : ((y0_0 2) + 1).toInt = (y0_0 2).toInt + 1 := iv_addc b43 (by decide) (by decide) (by decide)
        refine va_put (D := (dC, dI)) (ci := 11) (v := .int ((y0_0 2) + 1)) (ty := .int) (C := RX11) (T := TX11) (N := 61) hx hb hts hin11 tyX11 tyX11_ok nmX11 hown hK hP hD hS 0 rfl rfl 16 (by decide) hw_0 (fun _ h9 => h9) rfl (by decide +kernel) rfl rfl (Nat.le_of_ble_eq_true rfl) dX11_stepOn_33 (fun H locs hPa hDa hS => ?_)
        clear hP hD
        have hP : va_P (dC, dI) vwCl [(m0, .inr (11, oX11 ra (upd y0_0 2 ((y0_0 2) + 1)))), (ra 13, .inl (kI, 700, .inl q_tape))] H := hPa
        have hD : va_D A [(m0, .inr (11, oX11 ra (upd y0_0 2 ((y0_0 2) + 1)))), (ra 13, .inl (kI, 700, .inl q_tape))] := hDa
        clear hPa hDa
        refine lv_goto (tgt := 0) hx hb dX11_stepOn_36 rfl ?_
        exact ih0 (upd y0_0 2 ((y0_0 2) + 1)) _ _ _ (ms_up (c := 1) (d := 0) b43 hm0 (by decide) (iv_addc b43 (by decide) (by decide) (by decide)) (by decide) rfl) ((fI_u hI0_0 (k := 2) ((iv_w b44 (by decide) (by decide))))) ((by subst hTQ; exact rs_bl hRr hk_0 (iv_w b43 (by decide) (by decide)) (Or.inl c41))) ((show (x0 2).toInt ≤ ((y0_0 2) + 1).toInt from by omega)) ((show y0_0 3 = x0 3 from hts_0)) ((show y0_0 1 = x0 1 from htp_0)) ((show y0_0 10 = x0 10 from hfp_0)) (hP) (hD) hS (lv_sub hl [0] rfl)
      · refine lv_aload_n hx hb dX11_stepOn_13 rfl (lv_at hl 0 rfl) ?_
        refine lv_aload_n hx hb dX11_stepOn_14 rfl (lv_at hl 0 rfl) ?_
        refine va_get (D := (dC, dI)) (ci := 11) (v := .int (y0_0 2)) (C := RX11) (T := TX11) (N := 61) hx hb hts hin11 hown hK hP 0 rfl rfl 16 (Nat.le_of_ble_eq_true rfl) hw_0 (fun _ h9 => h9) rfl dX11_stepOn_15 ?_
        obtain ⟨hPc, hDc, hFc, hJn⟩ := cl_a (wc := [(m0, .inr (11, oX11 ra y0_0)), (ra 13, .inl (kI, 700, .inl q_tape))]) (wr := []) hP hD hS hA [0, 1] [] rfl rfl (by decide +kernel)
        refine va_calli (va_runV (As := [.int (y0_0 2)]) (rest := []) ⟨hx, hb, hml, hown, hts⟩ (s11_byteAt l dC dI kB kI kJ kZ kC kS H.size m0 ra y0_0 q_tape (y0_0 2) (hI0_0) (hq_tape) ((hI0_0 2 : iv 0 700 (y0_0 2)))) (cwV 1 hts gX11_stepOn_X11_byteAt rfl rfl rfl (by decide +kernel) ⟨Nat.le_of_ble_eq_true rfl, Nat.le_of_ble_eq_true rfl⟩) ⟨fun a U g mk q => by obtain ⟨q0, q1, qP, qE, qD⟩ := q; exact ⟨q0, q1, qP, kE_call qE, qD⟩, va_recv hK hP (ci := 11) (q0 := 0) rfl rfl, fun U hU hW => ⟨rfl, by rw [hU], by rw [hU]; exact hPc, kE_warm hW hE, hDc.weaken (fun _ _ _ _ => trivial)⟩⟩ rfl rfl hl.1 rfl (lv_room (Nat.le_of_ble_eq_true rfl)) dX11_stepOn_18 ⟨Nat.le_of_ble_eq_true rfl, Nat.le_of_ble_eq_true rfl⟩) hS (fun q _ h => hFc q h) hFc (fun r46 u t H locs ht hvm w47 hB hz1 hk1 hS => ?_)
        obtain ⟨hq48, hP1, hD1⟩ := hB
        try dsimp only at w47
        obtain ⟨hPa, hDa⟩ := hJn (w1 := [(m0, .inr (11, oX11 ra y0_0)), (ra 13, .inl (kI, 700, .inl q_tape))]) hk1 ht hP1 hD1
        clear hP hD hPc hDc hFc hJn hP1 hD1 hk1
        have hP : va_P (dC, dI) vwCl [(m0, .inr (11, oX11 ra y0_0)), (ra 13, .inl (kI, 700, .inl q_tape))] H := hPa
        have hD : va_D A [(m0, .inr (11, oX11 ra y0_0)), (ra 13, .inl (kI, 700, .inl q_tape))] := hDa
        clear hPa hDa
        refine W.widen (k := 0) (n := 0) (Nat.le_of_ble_eq_true rfl) (Nat.le_of_ble_eq_true rfl) ?_
        obtain ⟨w47, b49⟩ := w47
        subst w47
        refine lv_bipush (v := 10) hx hb dX11_stepOn_21 bp_10 ?_
        refine lv_icmp_ne (tgt := 39) hx hb dX11_stepOn_23 rfl (fun c50 => ?_) (fun c50 => ?_)
        · refine lv_aload_n hx hb dX11_stepOn_39 rfl (lv_at hl 0 rfl) ?_
          refine lv_aload_n hx hb dX11_stepOn_40 rfl (lv_at hl 0 rfl) ?_
          refine va_get (D := (dC, dI)) (ci := 11) (v := .int (y0_0 2)) (C := RX11) (T := TX11) (N := 61) hx hb hts hin11 hown hK hP 0 rfl rfl 16 (Nat.le_of_ble_eq_true rfl) hw_0 (fun _ h9 => h9) rfl dX11_stepOn_41 ?_
          refine va_put (D := (dC, dI)) (ci := 11) (v := .int (y0_0 2)) (ty := .int) (C := RX11) (T := TX11) (N := 61) hx hb hts hin11 tyX11 tyX11_ok nmX11 hown hK hP hD hS 0 rfl rfl 20 (by decide) hw_9 (fun _ h9 => h9) rfl (by decide +kernel) rfl rfl (Nat.le_of_ble_eq_true rfl) dX11_stepOn_44 (fun H locs hPa hDa hS => ?_)
          clear hP hD
          have hP : va_P (dC, dI) vwCl [(m0, .inr (11, oX11 ra (upd y0_0 6 (y0_0 2)))), (ra 13, .inl (kI, 700, .inl q_tape))] H := hPa
          have hD : va_D A [(m0, .inr (11, oX11 ra (upd y0_0 6 (y0_0 2)))), (ra 13, .inl (kI, 700, .inl q_tape))] := hDa
          clear hPa hDa
          refine lv_aload_n hx hb dX11_stepOn_47 rfl (lv_at hl 0 rfl) ?_
          refine lv_aload_n hx hb dX11_stepOn_48 rfl (lv_at hl 0 rfl) ?_
          refine va_get (D := (dC, dI)) (ci := 11) (v := .int (y0_0 2)) (C := RX11) (T := TX11) (N := 61) hx hb hts hin11 hown hK hP 0 rfl rfl 16 (Nat.le_of_ble_eq_true rfl) hw_0 (fun _ h9 => h9) rfl dX11_stepOn_49 ?_
          obtain ⟨hPc, hDc, hFc, hJn⟩ := cl_a (wc := [(m0, .inr (11, oX11 ra (upd y0_0 6 (y0_0 2)))), (ra 13, .inl (kI, 700, .inl q_tape))]) (wr := []) hP hD hS hA [0, 1] [] rfl rfl (by decide +kernel)
          refine va_calli (va_runV (As := [.int (y0_0 2)]) (rest := []) ⟨hx, hb, hml, hown, hts⟩ (s11_byteAt l dC dI kB kI kJ kZ kC kS H.size m0 ra (upd y0_0 6 (y0_0 2)) q_tape (y0_0 2) ((fI_u hI0_0 (k := 6) ((hI0_0 2 : iv 0 700 (y0_0 2))))) (hq_tape) ((hI0_0 2 : iv 0 700 (y0_0 2)))) (cwV 1 hts gX11_stepOn_X11_byteAt rfl rfl rfl (by decide +kernel) ⟨Nat.le_of_ble_eq_true rfl, Nat.le_of_ble_eq_true rfl⟩) ⟨fun a U g mk q => by obtain ⟨q0, q1, qP, qE, qD⟩ := q; exact ⟨q0, q1, qP, kE_call qE, qD⟩, va_recv hK hP (ci := 11) (q0 := 0) rfl rfl, fun U hU hW => ⟨rfl, by rw [hU], by rw [hU]; exact hPc, kE_warm hW hE, hDc.weaken (fun _ _ _ _ => trivial)⟩⟩ rfl rfl hl.1 rfl (lv_room (Nat.le_of_ble_eq_true rfl)) dX11_stepOn_52 ⟨Nat.le_of_ble_eq_true rfl, Nat.le_of_ble_eq_true rfl⟩) hS (fun q _ h => hFc q h) hFc (fun r51 u t H locs ht hvm w52 hB hz1 hk1 hS => ?_)
          obtain ⟨hq53, hP1, hD1⟩ := hB
          try dsimp only at w52
          obtain ⟨hPa, hDa⟩ := hJn (w1 := [(m0, .inr (11, oX11 ra (upd y0_0 6 (y0_0 2)))), (ra 13, .inl (kI, 700, .inl q_tape))]) hk1 ht hP1 hD1
          clear hP hD hPc hDc hFc hJn hP1 hD1 hk1
          have hP : va_P (dC, dI) vwCl [(m0, .inr (11, oX11 ra (upd y0_0 6 (y0_0 2)))), (ra 13, .inl (kI, 700, .inl q_tape))] H := hPa
          have hD : va_D A [(m0, .inr (11, oX11 ra (upd y0_0 6 (y0_0 2)))), (ra 13, .inl (kI, 700, .inl q_tape))] := hDa
          clear hPa hDa
          refine W.widen (k := 0) (n := 0) (Nat.le_of_ble_eq_true rfl) (Nat.le_of_ble_eq_true rfl) ?_
          obtain ⟨w52, b54⟩ := w52
          subst w52
          refine lv_istore_n (lv' := [(1, .int (byA q_tape (y0_0 3) (y0_0 2))), (0, .ref m0)]) hx hb dX11_stepOn_55 rfl hl (Nat.le_of_ble_eq_true rfl) rfl (fun ls hl => ?_)
          refine lv_iload_n hx hb dX11_stepOn_56 rfl (lv_at hl 0 rfl) ?_
          refine lv_iconst (v := (-1)) hx hb dX11_stepOn_57 ic_m1 ?_
          refine lv_icmp_ne (tgt := 69) hx hb dX11_stepOn_58 rfl (fun c55 => ?_) (fun c55 => ?_)
          · have b56 : iv 0 255 (byA q_tape (y0_0 3) (y0_0 2)) := iv_neLo c55 b40 ivk_m1 (by decide) (by decide)
            have b57 : iv 0 699 (y0_0 2) := (hq39).resolve_left (iv_ne b56 ivk_m1 (by decide))
            refine lv_iload_n hx hb dX11_stepOn_69 rfl (lv_at hl 0 rfl) ?_
            obtain ⟨hPc, hDc, hFc, hJn⟩ := cl_a (wc := []) (wr := [(m0, .inr (11, oX11 ra (upd y0_0 6 (y0_0 2)))), (ra 13, .inl (kI, 700, .inl q_tape))]) hP hD hS hA [] [0, 1] rfl rfl (by decide +kernel)
            refine va_calli (va_runS (As := [.int (byA q_tape (y0_0 3) (y0_0 2))]) (rest := []) ⟨hx, hb, hml, hown, hts⟩ (s11_isLetter l dC dI kB kI kJ kZ kC kS H.size (byA q_tape (y0_0 3) (y0_0 2))) (va_cwS 1 hts gX11_stepOn_X11_isLetter rfl rfl rfl (by decide +kernel) ⟨Nat.le_of_ble_eq_true rfl, Nat.le_of_ble_eq_true rfl⟩) ⟨fun a U g mk q => by obtain ⟨q0, q1, qP, qE, qD⟩ := q; exact ⟨q0, q1, qP, kE_call qE, qD⟩, fun U hU hW => ⟨rfl, by rw [hU], by rw [hU]; exact hPc, kE_warm hW hE, hDc.weaken (fun _ _ _ _ => trivial)⟩⟩ rfl rfl hl.1 rfl (lv_room (Nat.le_of_ble_eq_true rfl)) dX11_stepOn_70 ⟨Nat.le_of_ble_eq_true rfl, Nat.le_of_ble_eq_true rfl⟩) hS (fun q _ h => hFc q h) hFc (fun r58 u t H locs ht hvm w59 hB hz1 hk1 hS => ?_)
            obtain ⟨hP1, hD1⟩ := hB
            try dsimp only at w59
            obtain ⟨hPa, hDa⟩ := hJn (w1 := []) hk1 ht hP1 hD1
            clear hP hD hPc hDc hFc hJn hP1 hD1 hk1
            have hP : va_P (dC, dI) vwCl [(m0, .inr (11, oX11 ra (upd y0_0 6 (y0_0 2)))), (ra 13, .inl (kI, 700, .inl q_tape))] H := hPa
            have hD : va_D A [(m0, .inr (11, oX11 ra (upd y0_0 6 (y0_0 2)))), (ra 13, .inl (kI, 700, .inl q_tape))] := hDa
            clear hPa hDa
            refine W.widen (k := 0) (n := 0) (Nat.le_of_ble_eq_true rfl) (Nat.le_of_ble_eq_true rfl) ?_
            obtain ⟨w59, b60⟩ := w59
            subst w59
            refine lv_if_eq (tgt := 111) hx hb dX11_stepOn_73 rfl (fun c61 => ?_) (fun c61 => ?_)
            · have b62 : iv 0 0 (isLt (byA q_tape (y0_0 3) (y0_0 2))) := iv_eqL c61 ivk_0
              refine lv_iload_n hx hb dX11_stepOn_111 rfl (lv_at hl 0 rfl) ?_
              obtain ⟨hPc, hDc, hFc, hJn⟩ := cl_a (wc := []) (wr := [(m0, .inr (11, oX11 ra (upd y0_0 6 (y0_0 2)))), (ra 13, .inl (kI, 700, .inl q_tape))]) hP hD hS hA [] [0, 1] rfl rfl (by decide +kernel)
              refine va_calli (va_runS (As := [.int (byA q_tape (y0_0 3) (y0_0 2))]) (rest := []) ⟨hx, hb, hml, hown, hts⟩ (s11_isDigit l dC dI kB kI kJ kZ kC kS H.size (byA q_tape (y0_0 3) (y0_0 2))) (va_cwS 1 hts gX11_stepOn_X11_isDigit rfl rfl rfl (by decide +kernel) ⟨Nat.le_of_ble_eq_true rfl, Nat.le_of_ble_eq_true rfl⟩) ⟨fun a U g mk q => by obtain ⟨q0, q1, qP, qE, qD⟩ := q; exact ⟨q0, q1, qP, kE_call qE, qD⟩, fun U hU hW => ⟨rfl, by rw [hU], by rw [hU]; exact hPc, kE_warm hW hE, hDc.weaken (fun _ _ _ _ => trivial)⟩⟩ rfl rfl hl.1 rfl (lv_room (Nat.le_of_ble_eq_true rfl)) dX11_stepOn_112 ⟨Nat.le_of_ble_eq_true rfl, Nat.le_of_ble_eq_true rfl⟩) hS (fun q _ h => hFc q h) hFc (fun r63 u t H locs ht hvm w64 hB hz1 hk1 hS => ?_)
              obtain ⟨hP1, hD1⟩ := hB
              try dsimp only at w64
              obtain ⟨hPa, hDa⟩ := hJn (w1 := []) hk1 ht hP1 hD1
              clear hP hD hPc hDc hFc hJn hP1 hD1 hk1
              have hP : va_P (dC, dI) vwCl [(m0, .inr (11, oX11 ra (upd y0_0 6 (y0_0 2)))), (ra 13, .inl (kI, 700, .inl q_tape))] H := hPa
              have hD : va_D A [(m0, .inr (11, oX11 ra (upd y0_0 6 (y0_0 2)))), (ra 13, .inl (kI, 700, .inl q_tape))] := hDa
              clear hPa hDa
              refine W.widen (k := 0) (n := 0) (Nat.le_of_ble_eq_true rfl) (Nat.le_of_ble_eq_true rfl) ?_
              obtain ⟨w64, b65⟩ := w64
              subst w64
              refine lv_if_eq (tgt := 186) hx hb dX11_stepOn_115 rfl (fun c66 => ?_) (fun c66 => ?_)
              · have b67 : iv 0 0 (isDg (byA q_tape (y0_0 3) (y0_0 2))) := iv_eqL c66 ivk_0
                refine lv_aload_n hx hb dX11_stepOn_186 rfl (lv_at hl 1 rfl) ?_
                refine lv_dup hx hb dX11_stepOn_187 rfl ?_
                refine va_get (D := (dC, dI)) (ci := 11) (v := .int (y0_0 2)) (C := RX11) (T := TX11) (N := 61) hx hb hts hin11 hown hK hP 0 rfl rfl 16 (Nat.le_of_ble_eq_true rfl) hw_0 (fun _ h9 => h9) rfl dX11_stepOn_188 ?_
                refine lv_iconst (v := 1) hx hb dX11_stepOn_191 ic_1 ?_
                refine lv_iadd hx hb dX11_stepOn_192 ?_
                have b68 : iv 1 700 ((y0_0 2) + 1) := iv_add b57 ivk_1 (by decide) (by decide) (by decide) (by decide)
                have t69 : ((y0_0 2) + 1).toInt = (y0_0 2).toInt + 1 := iv_addc b57 (by decide) (by decide) (by decide)
                refine va_put (D := (dC, dI)) (ci := 11) (v := .int ((y0_0 2) + 1)) (ty := .int) (C := RX11) (T := TX11) (N := 61) hx hb hts hin11 tyX11 tyX11_ok nmX11 hown hK hP hD hS 0 rfl rfl 16 (by decide) hw_0 (fun _ h9 => h9) rfl (by decide +kernel) rfl rfl (Nat.le_of_ble_eq_true rfl) dX11_stepOn_193 (fun H locs hPa hDa hS => ?_)
                clear hP hD
                have hP : va_P (dC, dI) vwCl [(m0, .inr (11, oX11 ra (upd (upd y0_0 6 (y0_0 2)) 2 ((y0_0 2) + 1)))), (ra 13, .inl (kI, 700, .inl q_tape))] H := hPa
                have hD : va_D A [(m0, .inr (11, oX11 ra (upd (upd y0_0 6 (y0_0 2)) 2 ((y0_0 2) + 1)))), (ra 13, .inl (kI, 700, .inl q_tape))] := hDa
                clear hPa hDa
                refine lv_aload_n hx hb dX11_stepOn_196 rfl (lv_at hl 1 rfl) ?_
                refine lv_iload_n hx hb dX11_stepOn_197 rfl (lv_at hl 0 rfl) ?_
                refine lv_bipush (v := 59) hx hb dX11_stepOn_198 bp_59 ?_
                refine lv_icmp_ne (tgt := 207) hx hb dX11_stepOn_200 rfl (fun c70 => ?_) (fun c70 => ?_)
                · refine lv_iconst (v := 4) hx hb dX11_stepOn_207 ic_4 ?_
                  refine va_put (D := (dC, dI)) (ci := 11) (v := .int 4) (ty := .int) (C := RX11) (T := TX11) (N := 61) hx hb hts hin11 tyX11 tyX11_ok nmX11 hown hK hP hD hS 0 rfl rfl 18 (by decide) hw_1 (fun _ h9 => h9) rfl (by decide +kernel) rfl rfl (Nat.le_of_ble_eq_true rfl) dX11_stepOn_208 (fun H locs hPa hDa hS => ?_)
                  clear hP hD
                  have hP : va_P (dC, dI) vwCl [(m0, .inr (11, oX11 ra (upd (upd (upd y0_0 6 (y0_0 2)) 2 ((y0_0 2) + 1)) 4 4))), (ra 13, .inl (kI, 700, .inl q_tape))] H := hPa
                  have hD : va_D A [(m0, .inr (11, oX11 ra (upd (upd (upd y0_0 6 (y0_0 2)) 2 ((y0_0 2) + 1)) 4 4))), (ra 13, .inl (kI, 700, .inl q_tape))] := hDa
                  clear hPa hDa
                  refine lv_aload_n hx hb dX11_stepOn_211 rfl (lv_at hl 1 rfl) ?_
                  refine lv_aload_n hx hb dX11_stepOn_212 rfl (lv_at hl 1 rfl) ?_
                  refine va_get (D := (dC, dI)) (ci := 11) (v := .int ((y0_0 2) + 1)) (C := RX11) (T := TX11) (N := 61) hx hb hts hin11 hown hK hP 0 rfl rfl 16 (Nat.le_of_ble_eq_true rfl) hw_0 (fun _ h9 => h9) rfl dX11_stepOn_213 ?_
                  refine va_put (D := (dC, dI)) (ci := 11) (v := .int ((y0_0 2) + 1)) (ty := .int) (C := RX11) (T := TX11) (N := 61) hx hb hts hin11 tyX11 tyX11_ok nmX11 hown hK hP hD hS 0 rfl rfl 21 (by decide) hw_2 (fun _ h9 => h9) rfl (by decide +kernel) rfl rfl (Nat.le_of_ble_eq_true rfl) dX11_stepOn_216 (fun H locs hPa hDa hS => ?_)
                  clear hP hD
                  have hP : va_P (dC, dI) vwCl [(m0, .inr (11, oX11 ra (upd (upd (upd (upd y0_0 6 (y0_0 2)) 2 ((y0_0 2) + 1)) 4 4) 7 ((y0_0 2) + 1)))), (ra 13, .inl (kI, 700, .inl q_tape))] H := hPa
                  have hD : va_D A [(m0, .inr (11, oX11 ra (upd (upd (upd (upd y0_0 6 (y0_0 2)) 2 ((y0_0 2) + 1)) 4 4) 7 ((y0_0 2) + 1)))), (ra 13, .inl (kI, 700, .inl q_tape))] := hDa
                  clear hPa hDa
                  have hP9 := hP
                  have hD9 := hD
                  exact W.vret hx hb hr (fun t ht hW => ⟨⟨(), rfl, trivial, upd (upd (upd (upd y0_0 6 (y0_0 2)) 2 ((y0_0 2) + 1)) 4 4) 7 ((y0_0 2) + 1), (fI_u (fI_u (fI_u (fI_u hI0_0 (k := 6) ((iv_w b57 (by decide) (by decide)))) (k := 2) ((iv_w b68 (by decide) (by decide)))) (k := 4) ((iv_w ivk_4 (by decide) (by decide)))) (k := 7) ((iv_w b68 (by decide) (by decide)))), (show (x0 2).toInt ≤ ((y0_0 2) + 1).toInt from by omega), (show y0_0 3 = x0 3 from hts_0), (show 4 = 0 ∨ (x0 2).toInt + 1 ≤ ((y0_0 2) + 1).toInt from Or.inr (by omega)), (by subst hTQ; exact rs_sg hRr hSt (hX 2 : iv 0 700 (x0 2)) (rs_39 hRr hk_0 (iv_w b57 (by decide) (by decide)) c41 c50) c55 c61 c66 (Or.inr ⟨c70, rfl⟩)), (show y0_0 1 = x0 1 from htp_0), (show y0_0 10 = x0 10 from hfp_0), by rw [ht]; exact hP9, hD9⟩, hS.F ht⟩) hS.2.2 dX11_stepOn_219
                · have b71 : iv 59 59 (byA q_tape (y0_0 3) (y0_0 2)) := iv_eqL c70 ivk_59
                  refine lv_iconst (v := 3) hx hb dX11_stepOn_203 ic_3 ?_
                  refine lv_goto (tgt := 208) hx hb dX11_stepOn_204 rfl ?_
                  refine va_put (D := (dC, dI)) (ci := 11) (v := .int 3) (ty := .int) (C := RX11) (T := TX11) (N := 61) hx hb hts hin11 tyX11 tyX11_ok nmX11 hown hK hP hD hS 0 rfl rfl 18 (by decide) hw_1 (fun _ h9 => h9) rfl (by decide +kernel) rfl rfl (Nat.le_of_ble_eq_true rfl) dX11_stepOn_208 (fun H locs hPa hDa hS => ?_)
                  clear hP hD
                  have hP : va_P (dC, dI) vwCl [(m0, .inr (11, oX11 ra (upd (upd (upd y0_0 6 (y0_0 2)) 2 ((y0_0 2) + 1)) 4 3))), (ra 13, .inl (kI, 700, .inl q_tape))] H := hPa
                  have hD : va_D A [(m0, .inr (11, oX11 ra (upd (upd (upd y0_0 6 (y0_0 2)) 2 ((y0_0 2) + 1)) 4 3))), (ra 13, .inl (kI, 700, .inl q_tape))] := hDa
                  clear hPa hDa
                  refine lv_aload_n hx hb dX11_stepOn_211 rfl (lv_at hl 1 rfl) ?_
                  refine lv_aload_n hx hb dX11_stepOn_212 rfl (lv_at hl 1 rfl) ?_
                  refine va_get (D := (dC, dI)) (ci := 11) (v := .int ((y0_0 2) + 1)) (C := RX11) (T := TX11) (N := 61) hx hb hts hin11 hown hK hP 0 rfl rfl 16 (Nat.le_of_ble_eq_true rfl) hw_0 (fun _ h9 => h9) rfl dX11_stepOn_213 ?_
                  refine va_put (D := (dC, dI)) (ci := 11) (v := .int ((y0_0 2) + 1)) (ty := .int) (C := RX11) (T := TX11) (N := 61) hx hb hts hin11 tyX11 tyX11_ok nmX11 hown hK hP hD hS 0 rfl rfl 21 (by decide) hw_2 (fun _ h9 => h9) rfl (by decide +kernel) rfl rfl (Nat.le_of_ble_eq_true rfl) dX11_stepOn_216 (fun H locs hPa hDa hS => ?_)
                  clear hP hD
                  have hP : va_P (dC, dI) vwCl [(m0, .inr (11, oX11 ra (upd (upd (upd (upd y0_0 6 (y0_0 2)) 2 ((y0_0 2) + 1)) 4 3) 7 ((y0_0 2) + 1)))), (ra 13, .inl (kI, 700, .inl q_tape))] H := hPa
                  have hD : va_D A [(m0, .inr (11, oX11 ra (upd (upd (upd (upd y0_0 6 (y0_0 2)) 2 ((y0_0 2) + 1)) 4 3) 7 ((y0_0 2) + 1)))), (ra 13, .inl (kI, 700, .inl q_tape))] := hDa
                  clear hPa hDa
                  have hP9 := hP
                  have hD9 := hD
                  exact W.vret hx hb hr (fun t ht hW => ⟨⟨(), rfl, trivial, upd (upd (upd (upd y0_0 6 (y0_0 2)) 2 ((y0_0 2) + 1)) 4 3) 7 ((y0_0 2) + 1), (fI_u (fI_u (fI_u (fI_u hI0_0 (k := 6) ((iv_w b57 (by decide) (by decide)))) (k := 2) ((iv_w b68 (by decide) (by decide)))) (k := 4) ((iv_w ivk_3 (by decide) (by decide)))) (k := 7) ((iv_w b68 (by decide) (by decide)))), (show (x0 2).toInt ≤ ((y0_0 2) + 1).toInt from by omega), (show y0_0 3 = x0 3 from hts_0), (show 3 = 0 ∨ (x0 2).toInt + 1 ≤ ((y0_0 2) + 1).toInt from Or.inr (by omega)), (by subst hTQ; exact rs_sg hRr hSt (hX 2 : iv 0 700 (x0 2)) (rs_39 hRr hk_0 (iv_w b57 (by decide) (by decide)) c41 c50) c55 c61 c66 (Or.inl ⟨c70, rfl⟩)), (show y0_0 1 = x0 1 from htp_0), (show y0_0 10 = x0 10 from hfp_0), by rw [ht]; exact hP9, hD9⟩, hS.F ht⟩) hS.2.2 dX11_stepOn_219
              · have b72 : iv 1 1 (isDg (byA q_tape (y0_0 3) (y0_0 2))) := iv_neLo c66 b65 ivk_0 (by decide) (by decide)
                have b73 : iv 48 57 (byA q_tape (y0_0 3) (y0_0 2)) := isDg_iv (iv_ne b72 ivk_0 (by decide))
                refine lv_aload_n hx hb dX11_stepOn_118 rfl (lv_at hl 1 rfl) ?_
                refine lv_iconst (v := 0) hx hb dX11_stepOn_119 ic_0 ?_
                refine va_put (D := (dC, dI)) (ci := 11) (v := .int 0) (ty := .int) (C := RX11) (T := TX11) (N := 61) hx hb hts hin11 tyX11 tyX11_ok nmX11 hown hK hP hD hS 0 rfl rfl 19 (by decide) hw_4 (fun _ h9 => h9) rfl (by decide +kernel) rfl rfl (Nat.le_of_ble_eq_true rfl) dX11_stepOn_120 (fun H locs hPa hDa hS => ?_)
                clear hP hD
                have hP : va_P (dC, dI) vwCl [(m0, .inr (11, oX11 ra (upd (upd y0_0 6 (y0_0 2)) 5 0))), (ra 13, .inl (kI, 700, .inl q_tape))] H := hPa
                have hD : va_D A [(m0, .inr (11, oX11 ra (upd (upd y0_0 6 (y0_0 2)) 5 0))), (ra 13, .inl (kI, 700, .inl q_tape))] := hDa
                clear hPa hDa
                exact hJ123 _ (upd (upd y0_0 6 (y0_0 2)) 5 0) (byA q_tape (y0_0 3) (y0_0 2)) _ _ _ (Nat.lt_succ_self _) ((fI_u (fI_u hI0_0 (k := 6) ((iv_w b57 (by decide) (by decide)))) (k := 5) ((iv_w ivk_0 (by decide) (by decide))))) (b73) (b57) ((show (x0 2).toInt + 1 ≤ (y0_0 2).toInt ∨ ¬ isDg (byA q_tape (x0 3) (y0_0 2)) = 0 from Or.inr (by have q := c66; rw [hts_0] at q; exact q))) ((by subst hTQ; exact rs_123 hRr (rs_39 hRr hk_0 (iv_w b57 (by decide) (by decide)) c41 c50) (iv_w b57 (by decide) (by decide)) c55 c61 c66)) ((show (x0 2).toInt ≤ (y0_0 2).toInt from by omega)) ((show y0_0 3 = x0 3 from hts_0)) ((show y0_0 1 = x0 1 from htp_0)) ((show y0_0 10 = x0 10 from hfp_0)) (hP) (hD) hS (lv_sub hl [1, 0] rfl)
            · have b74 : iv 1 1 (isLt (byA q_tape (y0_0 3) (y0_0 2))) := iv_neLo c61 b60 ivk_0 (by decide) (by decide)
              have b75 : iv 97 122 (byA q_tape (y0_0 3) (y0_0 2)) := isLt_iv (iv_ne b74 ivk_0 (by decide))
              exact hJ76 _ (upd y0_0 6 (y0_0 2)) (byA q_tape (y0_0 3) (y0_0 2)) _ _ _ (Nat.lt_succ_self _) ((fI_u hI0_0 (k := 6) ((iv_w b57 (by decide) (by decide))))) (b75) (b57) ((show (x0 2).toInt + 1 ≤ (y0_0 2).toInt ∨ ¬ isLt (byA q_tape (x0 3) (y0_0 2)) = 0 from Or.inr (by have q := c61; rw [hts_0] at q; exact q))) ((by subst hTQ; exact rs_76 hRr (rs_39 hRr hk_0 (iv_w b57 (by decide) (by decide)) c41 c50) c55 c61)) ((show (x0 2).toInt ≤ (y0_0 2).toInt from by omega)) ((show y0_0 3 = x0 3 from hts_0)) ((show y0_0 1 = x0 1 from htp_0)) ((show y0_0 10 = x0 10 from hfp_0)) (hP) (hD) hS (lv_sub hl [1, 0] rfl)
          · have b76 : iv (-1) (-1) (byA q_tape (y0_0 3) (y0_0 2)) := iv_eqL c55 ivk_m1
            refine lv_aload_n hx hb dX11_stepOn_61 rfl (lv_at hl 1 rfl) ?_
            refine lv_iconst (v := 0) hx hb dX11_stepOn_62 ic_0 ?_
            refine va_put (D := (dC, dI)) (ci := 11) (v := .int 0) (ty := .int) (C := RX11) (T := TX11) (N := 61) hx hb hts hin11 tyX11 tyX11_ok nmX11 hown hK hP hD hS 0 rfl rfl 18 (by decide) hw_1 (fun _ h9 => h9) rfl (by decide +kernel) rfl rfl (Nat.le_of_ble_eq_true rfl) dX11_stepOn_63 (fun H locs hPa hDa hS => ?_)
            clear hP hD
            have hP : va_P (dC, dI) vwCl [(m0, .inr (11, oX11 ra (upd (upd y0_0 6 (y0_0 2)) 4 0))), (ra 13, .inl (kI, 700, .inl q_tape))] H := hPa
            have hD : va_D A [(m0, .inr (11, oX11 ra (upd (upd y0_0 6 (y0_0 2)) 4 0))), (ra 13, .inl (kI, 700, .inl q_tape))] := hDa
            clear hPa hDa
            refine lv_goto (tgt := 211) hx hb dX11_stepOn_66 rfl ?_
            refine lv_aload_n hx hb dX11_stepOn_211 rfl (lv_at hl 1 rfl) ?_
            refine lv_aload_n hx hb dX11_stepOn_212 rfl (lv_at hl 1 rfl) ?_
            refine va_get (D := (dC, dI)) (ci := 11) (v := .int (y0_0 2)) (C := RX11) (T := TX11) (N := 61) hx hb hts hin11 hown hK hP 0 rfl rfl 16 (Nat.le_of_ble_eq_true rfl) hw_0 (fun _ h9 => h9) rfl dX11_stepOn_213 ?_
            refine va_put (D := (dC, dI)) (ci := 11) (v := .int (y0_0 2)) (ty := .int) (C := RX11) (T := TX11) (N := 61) hx hb hts hin11 tyX11 tyX11_ok nmX11 hown hK hP hD hS 0 rfl rfl 21 (by decide) hw_2 (fun _ h9 => h9) rfl (by decide +kernel) rfl rfl (Nat.le_of_ble_eq_true rfl) dX11_stepOn_216 (fun H locs hPa hDa hS => ?_)
            clear hP hD
            have hP : va_P (dC, dI) vwCl [(m0, .inr (11, oX11 ra (upd (upd (upd y0_0 6 (y0_0 2)) 4 0) 7 (y0_0 2)))), (ra 13, .inl (kI, 700, .inl q_tape))] H := hPa
            have hD : va_D A [(m0, .inr (11, oX11 ra (upd (upd (upd y0_0 6 (y0_0 2)) 4 0) 7 (y0_0 2)))), (ra 13, .inl (kI, 700, .inl q_tape))] := hDa
            clear hPa hDa
            have hP9 := hP
            have hD9 := hD
            exact W.vret hx hb hr (fun t ht hW => ⟨⟨(), rfl, trivial, upd (upd (upd y0_0 6 (y0_0 2)) 4 0) 7 (y0_0 2), (fI_u (fI_u (fI_u hI0_0 (k := 6) ((hI0_0 2 : iv 0 700 (y0_0 2)))) (k := 4) ((iv_w ivk_0 (by decide) (by decide)))) (k := 7) ((hI0_0 2 : iv 0 700 (y0_0 2)))), (show (x0 2).toInt ≤ (y0_0 2).toInt from by omega), (show y0_0 3 = x0 3 from hts_0), (show 0 = 0 ∨ (x0 2).toInt + 1 ≤ (y0_0 2).toInt from Or.inl rfl), (by subst hTQ; exact rs_end hRr hSt hq_tape (hX 2 : iv 0 700 (x0 2)) (rs_39 hRr hk_0 (hI0_0 2 : iv 0 700 (y0_0 2)) c41 c50) c55), (show y0_0 1 = x0 1 from htp_0), (show y0_0 10 = x0 10 from hfp_0), by rw [ht]; exact hP9, hD9⟩, hS.F ht⟩) hS.2.2 dX11_stepOn_219
        · have b77 : iv 10 10 (byA q_tape (y0_0 3) (y0_0 2)) := iv_eqL c50 ivk_10
          have b78 : iv 0 699 (y0_0 2) := (hq39).resolve_left (iv_ne b77 ivk_m1 (by decide))
          refine lv_aload_n hx hb dX11_stepOn_26 rfl (lv_at hl 0 rfl) ?_
          refine lv_dup hx hb dX11_stepOn_27 rfl ?_
          refine va_get (D := (dC, dI)) (ci := 11) (v := .int (y0_0 2)) (C := RX11) (T := TX11) (N := 61) hx hb hts hin11 hown hK hP 0 rfl rfl 16 (Nat.le_of_ble_eq_true rfl) hw_0 (fun _ h9 => h9) rfl dX11_stepOn_28 ?_
          refine lv_iconst (v := 1) hx hb dX11_stepOn_31 ic_1 ?_
          refine lv_iadd hx hb dX11_stepOn_32 ?_
          have b79 : iv 1 700 ((y0_0 2) + 1) := iv_add b78 ivk_1 (by decide) (by decide) (by decide) (by decide)
          have t80 : ((y0_0 2) + 1).toInt = (y0_0 2).toInt + 1 := iv_addc b78 (by decide) (by decide) (by decide)
          refine va_put (D := (dC, dI)) (ci := 11) (v := .int ((y0_0 2) + 1)) (ty := .int) (C := RX11) (T := TX11) (N := 61) hx hb hts hin11 tyX11 tyX11_ok nmX11 hown hK hP hD hS 0 rfl rfl 16 (by decide) hw_0 (fun _ h9 => h9) rfl (by decide +kernel) rfl rfl (Nat.le_of_ble_eq_true rfl) dX11_stepOn_33 (fun H locs hPa hDa hS => ?_)
          clear hP hD
          have hP : va_P (dC, dI) vwCl [(m0, .inr (11, oX11 ra (upd y0_0 2 ((y0_0 2) + 1)))), (ra 13, .inl (kI, 700, .inl q_tape))] H := hPa
          have hD : va_D A [(m0, .inr (11, oX11 ra (upd y0_0 2 ((y0_0 2) + 1)))), (ra 13, .inl (kI, 700, .inl q_tape))] := hDa
          clear hPa hDa
          refine lv_goto (tgt := 0) hx hb dX11_stepOn_36 rfl ?_
          exact ih0 (upd y0_0 2 ((y0_0 2) + 1)) _ _ _ (ms_up (c := 1) (d := 0) b78 hm0 (by decide) (iv_addc b78 (by decide) (by decide) (by decide)) (by decide) rfl) ((fI_u hI0_0 (k := 2) ((iv_w b79 (by decide) (by decide))))) ((by subst hTQ; exact rs_bl hRr hk_0 (iv_w b78 (by decide) (by decide)) (Or.inr c50))) ((show (x0 2).toInt ≤ ((y0_0 2) + 1).toInt from by omega)) ((show y0_0 3 = x0 3 from hts_0)) ((show y0_0 1 = x0 1 from htp_0)) ((show y0_0 10 = x0 10 from hfp_0)) (hP) (hD) hS (lv_sub hl [0] rfl)
  exact hJ0 _ x0 _ _ _ (Nat.lt_succ_self _) (hX) ((show R0 tT nN x0 x0 from rs_0)) ((show (x0 2).toInt ≤ (x0 2).toInt from by omega)) ((show x0 3 = x0 3 from rfl)) ((show x0 1 = x0 1 from rfl)) ((show x0 10 = x0 10 from rfl)) (hP) (hD) hS (lv_sub hl [0] rfl)
def rm_s11_is : Room := { frames := 4, cells := 0, slots := 0, locals := 85 }
set_option maxHeartbeats 4000000 in
set_option maxRecDepth 100000 in
theorem s11_is (l : Launch) (dC : Nat → ClassId) (dI : Nat → Nat → Nat) (kB kI kJ kZ kC kS : ClassId) (sz : Nat) (adK : Nat → Nat) (adV : Nat → Nat) (m0 : Nat) (ra : Nat → Nat) (x0 : Nat → Int32) (q_tape : Nat → Int32) (i : Nat) (tT : Nat → Int32) (nN : Int32) (sS : StT) (hX : fI lX11 hX11 x0) (hq_tape : fI (fun _ => 0) (fun _ => 255) q_tape) (hi : i < 10) (hRr : RRd tT nN x0 sS) (hTQ : tT = q_tape) : Met l yX11_is wsX11_is rm_s11_is (va_Pc [.ref m0, .ref (adK i)] (fun U => U.heap.size = sz ∧ va_P (dC, dI) vwCl [(m0, .inr (11, oX11 ra x0)), (ra 13, .inl (kI, 700, .inl q_tape))] U.heap ∧ kE dC dI kB kI kJ kZ kC kS U ∧ va_D (fun _ => True) [(m0, .inr (11, oX11 ra x0)), (ra 13, .inl (kI, 700, .inl q_tape))] ∧ kL adK adV (va_A [(m0, .inr (11, oX11 ra x0)), (ra 13, .inl (kI, 700, .inl q_tape))] sz) U)) (va_Qi (fun (r : Int32) (_ : Unit) => r = wS tT i sS ∧ iv 0 1 r) (fun _ t => va_P (dC, dI) vwCl [(m0, .inr (11, oX11 ra x0)), (ra 13, .inl (kI, 700, .inl q_tape))] t.heap ∧ va_D (va_A [(m0, .inr (11, oX11 ra x0)), (ra 13, .inl (kI, 700, .inl q_tape))] sz) [(m0, .inr (11, oX11 ra x0)), (ra 13, .inl (kI, 700, .inl q_tape))]) (va_A [(m0, .inr (11, oX11 ra x0)), (ra 13, .inl (kI, 700, .inl q_tape))] sz)) 0 0 (va_A [(m0, .inr (11, oX11 ra x0)), (ra 13, .inl (kI, 700, .inl q_tape))] sz) := by
  refine Met.ofW (cc := cX11_is) (maxL := 4) (ret := (some .boolean)) (by decide) rfl ?_
  intro p e s m args0 below meth c s₁ B hml hv
  obtain ⟨hargs, hsz, hP, hE, hD0, hKL⟩ := hv
  have hx := B.exec
  have hb := B.bytes
  have hr := B.returns
  have hts := atoms_spec (ws := wsX11_is) B.pre
  have hown : s.vm.findClass RX11 = some m.cls := findClass_of_methodNamed B.named
  have hlocks := B.notSynchronized
  have hK := hE.1
  have hin11 : ∀ w ∈ wsX110, w ∈ wsX11_is := fun _ h9 => List.mem_cons_of_mem _ (List.mem_append_right _ h9)
  have hw_0 := hts (.fieldLink RX11 66 "PathProberModel" "tape" "[I") (List.mem_of_getElem? (i := 5) rfl)
  have hw_1 := hts (.fieldLink RX11 158 "PathProberModel" "begins" "I") (List.mem_of_getElem? (i := 4) rfl)
  have hw_2 := hts (.fieldLink RX11 184 "PathProberModel" "bad" "I") (List.mem_of_getElem? (i := 1) rfl)
  have hw_3 := hts (.fieldLink RX11 161 "PathProberModel" "token" "I") (List.mem_of_getElem? (i := 2) rfl)
  have hw_4 := hts (.fieldLink RX11 181 "PathProberModel" "stops" "I") (List.mem_of_getElem? (i := 3) rfl)
  subst hsz
  have hD := hD0.self (sz := s.heap.size)
  generalize hAe : va_A [(m0, .inr (11, oX11 ra x0)), (ra 13, .inl (kI, 700, .inl q_tape))] s.heap.size = A at hD hKL ⊢
  have hA : ∀ q : Nat, s.heap.size ≤ q → A q := fun q h => by rw [← hAe]; exact Or.inr h
  have hS : va_S A s.heap s.heap [] := va_S.rf
  have hP : va_P (dC, dI) vwCl [(m0, .inr (11, oX11 ra x0)), (ra 13, .inl (kI, 700, .inl q_tape))] s.heap := hP
  have hl := lv_entry ([.ref m0, .ref (adK i)]) (n := 4) (Nat.le_of_ble_eq_true rfl)
  have hla : entryFrame m args0 4 = entryFrame m ([.ref m0, .ref (adK i)] : List Value).toArray 4 := by rw [hargs]
  rw [hla, lg_entry_eq]
  generalize (lg_sl ([.ref m0, .ref (adK i)]) ++ List.replicate (4 - (lg_sl ([.ref m0, .ref (adK i)])).length) Slot.unset).toArray = ls at hl ⊢
  have hl : lv_has ls 4 [(0, .ref m0), (1, .ref (adK i))] := hl
  have hJ39 : ∀ (n : Nat) (v39_loc2 : Int32) (v39_loc3 : Int32) (H : Heap) (locs : List Loc) (ls : Array Slot), (699 - v39_loc3.toInt).toNat < n → iv 0 1 v39_loc2 → iv 0 699 v39_loc3 → (v39_loc2 = 0 ∨ nI (lenL.getD i 0) = x0 7 - x0 6) → (IsR tT i x0 sS v39_loc2 v39_loc3) → (x0 1 = x0 1) → (x0 10 = x0 10) → va_P (dC, dI) vwCl [(m0, .inr (11, oX11 ra x0)), (ra 13, .inl (kI, 700, .inl q_tape))] H → va_D A [(m0, .inr (11, oX11 ra x0)), (ra 13, .inl (kI, 700, .inl q_tape))] → va_S A s.heap H locs → lv_has ls 4 [(0, .ref m0), (1, .ref (adK i)), (2, .int v39_loc2), (3, .int v39_loc3)] → W p l e (headSpec wsX11_is rm_s11_is).room s m args0 below meth c H locs (0) (0) (MQ below (va_Qi (fun (r : Int32) (_ : Unit) => r = wS tT i sS ∧ iv 0 1 r) (fun _ t => va_P (dC, dI) vwCl [(m0, .inr (11, oX11 ra x0)), (ra 13, .inl (kI, 700, .inl q_tape))] t.heap ∧ va_D A [(m0, .inr (11, oX11 ra x0)), (ra 13, .inl (kI, 700, .inl q_tape))]) A) args0 s 0 0 A) (F0 m 39 ls []) := by
    intro n
    induction n with
    | zero => intro v39_loc2 v39_loc3 H locs ls hm39; exact absurd hm39 (Nat.not_lt_zero _)
    | succ n ih39 =>
      intro v39_loc2 v39_loc3 H locs ls hm39 h39_1 h39_2 hie_39 hir_39 htp_39 hfp_39 hP hD hS hl
      refine lv_iload_n hx hb dX11_is_39 rfl (lv_at hl 2 rfl) ?_
      refine lv_if_eq (tgt := 82) hx hb dX11_is_40 rfl (fun c1 => ?_) (fun c1 => ?_)
      · have b2 : iv 0 0 v39_loc2 := iv_eqL c1 ivk_0
        refine lv_iload_n hx hb dX11_is_82 rfl (lv_at hl 2 rfl) ?_
        have hP9 := hP
        have hD9 := hD
        exact W.zret (v := v39_loc2) (ty := .boolean) hx hb hr (z_nar (iv_w b2 (by decide) (by decide))) (fun t ht hW => ⟨⟨v39_loc2, (), rfl, ⟨is_e0 hir_39 c1, (iv_w b2 (by decide) (by decide))⟩, by rw [ht]; exact hP9, hD9⟩, hS.F ht⟩) hS.2.2 dX11_is_83
      · have b3 : iv 1 1 v39_loc2 := iv_neLo c1 h39_1 ivk_0 (by decide) (by decide)
        have hr4 : nI (lenL.getD i 0) = x0 7 - x0 6 := hie_39.resolve_left (iv_ne b3 ivk_0 (by decide))
        refine lv_iload_n hx hb dX11_is_43 rfl (lv_at hl 3 rfl) ?_
        refine lv_aload_n hx hb dX11_is_44 rfl (lv_at hl 1 rfl) ?_
        obtain ⟨hPc, hDc, hFc, hJn⟩ := cl_a (wc := []) (wr := [(m0, .inr (11, oX11 ra x0)), (ra 13, .inl (kI, 700, .inl q_tape))]) hP hD hS hA [] [0, 1] rfl rfl (by decide +kernel)
        refine va_calli (va_runV (As := []) (rest := [.int v39_loc3]) ⟨hx, hb, hml, hown, hts⟩ (sJ_length l dC dI kB kI kJ kZ kC kS H.size adK adV i (hi)) (cwV 0 hts gX11_is_J0_length_8abf5 rfl rfl rfl (by decide +kernel) ⟨Nat.le_of_ble_eq_true rfl, Nat.le_of_ble_eq_true rfl⟩) ⟨fun a U g mk q => by obtain ⟨q0, q1, qP, qE, qD, qL⟩ := q; exact ⟨q0, q1, qP, kE_call qE, qD, kL_call qL⟩, kS_recv hKL.1 hi hS, fun U hU hW => ⟨rfl, by rw [hU], by rw [hU]; exact hPc, kE_warm hW hE, hDc.weaken (fun _ _ _ _ => trivial), kL_at hKL hS hFc hW hU⟩⟩ rfl rfl hl.1 rfl (lv_room (Nat.le_of_ble_eq_true rfl)) dX11_is_45 ⟨Nat.le_of_ble_eq_true rfl, Nat.le_of_ble_eq_true rfl⟩) hS (fun q _ h => hFc q h) hFc (fun r5 u t H locs ht hvm w6 hB hz1 hk1 hS => ?_)
        obtain ⟨hP1, hD1⟩ := hB
        try dsimp only at w6
        obtain ⟨hPa, hDa⟩ := hJn (w1 := []) hk1 ht hP1 hD1
        clear hP hD hPc hDc hFc hJn hP1 hD1 hk1
        have hP : va_P (dC, dI) vwCl [(m0, .inr (11, oX11 ra x0)), (ra 13, .inl (kI, 700, .inl q_tape))] H := hPa
        have hD : va_D A [(m0, .inr (11, oX11 ra x0)), (ra 13, .inl (kI, 700, .inl q_tape))] := hDa
        clear hPa hDa
        refine W.widen (k := 0) (n := 0) (Nat.le_of_ble_eq_true rfl) (Nat.le_of_ble_eq_true rfl) ?_
        obtain ⟨w6, b7⟩ := w6
        subst w6
        refine lv_icmp_ge (tgt := 82) hx hb dX11_is_48 rfl (fun c8 => ?_) (fun c8 => ?_)
        · refine lv_iload_n hx hb dX11_is_82 rfl (lv_at hl 2 rfl) ?_
          have hP9 := hP
          have hD9 := hD
          exact W.zret (v := v39_loc2) (ty := .boolean) hx hb hr (z_nar (iv_w b3 (by decide) (by decide))) (fun t ht hW => ⟨⟨v39_loc2, (), rfl, ⟨is_e1 hRr hir_39 c1 c8, (iv_w b3 (by decide) (by decide))⟩, by rw [ht]; exact hP9, hD9⟩, hS.F ht⟩) hS.2.2 dX11_is_83
        · have b9 : iv 0 698 v39_loc3 := iv_ltL (Int32.not_le.mp c8) h39_2 b7 (by decide) (by decide)
          have b10 : iv 1 699 (nI (lenL.getD i 0)) := iv_ltR (Int32.not_le.mp c8) h39_2 b7 (by decide) (by decide)
          refine lv_aload_n hx hb dX11_is_51 rfl (lv_at hl 1 rfl) ?_
          refine lv_iload_n hx hb dX11_is_52 rfl (lv_at hl 3 rfl) ?_
          obtain ⟨hPc, hDc, hFc, hJn⟩ := cl_a (wc := []) (wr := [(m0, .inr (11, oX11 ra x0)), (ra 13, .inl (kI, 700, .inl q_tape))]) hP hD hS hA [] [0, 1] rfl rfl (by decide +kernel)
          refine va_calli (va_runV (As := [.int v39_loc3]) (rest := []) ⟨hx, hb, hml, hown, hts⟩ (sJ_charAt l dC dI kB kI kJ kZ kC kS H.size adK adV i v39_loc3 (hi) ((iv_w b9 (by decide) (by decide))) ((Int32.not_le.mp c8))) (cwV 1 hts gX11_is_J0_charAt_5068e rfl rfl rfl (by decide +kernel) ⟨Nat.le_of_ble_eq_true rfl, Nat.le_of_ble_eq_true rfl⟩) ⟨fun a U g mk q => by obtain ⟨q0, q1, qP, qE, qD, qL⟩ := q; exact ⟨q0, q1, qP, kE_call qE, qD, kL_call qL⟩, kS_recv hKL.1 hi hS, fun U hU hW => ⟨rfl, by rw [hU], by rw [hU]; exact hPc, kE_warm hW hE, hDc.weaken (fun _ _ _ _ => trivial), kL_at hKL hS hFc hW hU⟩⟩ rfl rfl hl.1 rfl (lv_room (Nat.le_of_ble_eq_true rfl)) dX11_is_53 ⟨Nat.le_of_ble_eq_true rfl, Nat.le_of_ble_eq_true rfl⟩) hS (fun q _ h => hFc q h) hFc (fun r11 u t H locs ht hvm w12 hB hz1 hk1 hS => ?_)
          obtain ⟨hP1, hD1⟩ := hB
          try dsimp only at w12
          obtain ⟨hPa, hDa⟩ := hJn (w1 := []) hk1 ht hP1 hD1
          clear hP hD hPc hDc hFc hJn hP1 hD1 hk1
          have hP : va_P (dC, dI) vwCl [(m0, .inr (11, oX11 ra x0)), (ra 13, .inl (kI, 700, .inl q_tape))] H := hPa
          have hD : va_D A [(m0, .inr (11, oX11 ra x0)), (ra 13, .inl (kI, 700, .inl q_tape))] := hDa
          clear hPa hDa
          refine W.widen (k := 0) (n := 0) (Nat.le_of_ble_eq_true rfl) (Nat.le_of_ble_eq_true rfl) ?_
          subst w12
          refine lv_aload_n hx hb dX11_is_56 rfl (lv_at hl 0 rfl) ?_
          refine va_get (D := (dC, dI)) (ci := 11) (v := .ref (ra 13)) (C := RX11) (T := TX11) (N := 61) hx hb hts hin11 hown hK hP 0 rfl rfl 14 (Nat.le_of_ble_eq_true rfl) hw_0 (fun _ h9 => h9) rfl dX11_is_57 ?_
          refine lv_aload_n hx hb dX11_is_60 rfl (lv_at hl 0 rfl) ?_
          refine va_get (D := (dC, dI)) (ci := 11) (v := .int (x0 6)) (C := RX11) (T := TX11) (N := 61) hx hb hts hin11 hown hK hP 0 rfl rfl 20 (Nat.le_of_ble_eq_true rfl) hw_1 (fun _ h9 => h9) rfl dX11_is_61 ?_
          refine lv_iload_n hx hb dX11_is_64 rfl (lv_at hl 3 rfl) ?_
          refine lv_iadd hx hb dX11_is_65 ?_
          have b13 : iv 0 699 ((x0 6) + v39_loc3) := is_ix (hX 6 : iv 0 700 (x0 6)) (hX 7 : iv 0 700 (x0 7)) (iv_w b9 (by decide) (by decide)) hr4 (Int32.not_le.mp c8)
          refine va_iald hx hb hK hP 1 1 rfl rfl (iv_in b13 (by decide) (by decide)) dX11_is_66 ?_
          have b14 : iv 0 255 (q_tape ((x0 6) + v39_loc3).toNatClampNeg) := hq_tape _
          refine lv_icmp_ne (tgt := 74) hx hb dX11_is_67 rfl (fun c15 => ?_) (fun c15 => ?_)
          · refine lv_iconst (v := 0) hx hb dX11_is_74 ic_0 ?_
            refine lv_istore_n (lv' := [(2, .int 0), (0, .ref m0), (1, .ref (adK i)), (3, .int v39_loc3)]) hx hb dX11_is_75 rfl hl (Nat.le_of_ble_eq_true rfl) rfl (fun ls hl => ?_)
            refine lv_iinc (v := v39_loc3 + Int32.ofInt 1) (lv' := [(3, .int (v39_loc3 + Int32.ofInt 1)), (2, .int 0), (0, .ref m0), (1, .ref (adK i))]) hx hb dX11_is_76 hl (k := 3) rfl (rfl) (Nat.le_of_ble_eq_true rfl) rfl (fun ls hl => ?_)
            have b16 : iv 1 699 (v39_loc3 + Int32.ofInt 1) := iv_add b9 ivo_1 (by decide) (by decide) (by decide) (by decide)
            refine lv_goto (tgt := 39) hx hb dX11_is_79 rfl ?_
            exact ih39 0 (v39_loc3 + Int32.ofInt 1) _ _ _ (ms_up (c := 1) (d := 0) b9 hm39 (by decide) (iv_inc 1 b9 (by decide) (by decide) (by decide) (by decide)) (by decide) rfl) ((iv_w ivk_0 (by decide) (by decide))) ((iv_w b16 (by decide) (by decide))) ((show 0 = 0 ∨ nI (lenL.getD i 0) = x0 7 - x0 6 from hie_39.elim (fun w => absurd w c1) Or.inr)) ((show IsR tT i x0 sS 0 (v39_loc3 + Int32.ofInt 1) from (by subst hTQ; exact is_n hRr hir_39 c1 (hX 6 : iv 0 700 (x0 6)) (iv_w b9 (by decide) (by decide)) (Int32.not_le.mp c8) c15))) ((show x0 1 = x0 1 from rfl)) ((show x0 10 = x0 10 from rfl)) (hP) (hD) hS (lv_sub hl [2, 3, 1, 0] rfl)
          · have b17 : iv 0 255 ((bytL.getD i []).getD v39_loc3.toNatClampNeg 0) := iv_eqL c15 b14
            refine lv_iconst (v := 1) hx hb dX11_is_70 ic_1 ?_
            refine lv_goto (tgt := 75) hx hb dX11_is_71 rfl ?_
            refine lv_istore_n (lv' := [(2, .int 1), (0, .ref m0), (1, .ref (adK i)), (3, .int v39_loc3)]) hx hb dX11_is_75 rfl hl (Nat.le_of_ble_eq_true rfl) rfl (fun ls hl => ?_)
            refine lv_iinc (v := v39_loc3 + Int32.ofInt 1) (lv' := [(3, .int (v39_loc3 + Int32.ofInt 1)), (2, .int 1), (0, .ref m0), (1, .ref (adK i))]) hx hb dX11_is_76 hl (k := 3) rfl (rfl) (Nat.le_of_ble_eq_true rfl) rfl (fun ls hl => ?_)
            have b18 : iv 1 699 (v39_loc3 + Int32.ofInt 1) := iv_add b9 ivo_1 (by decide) (by decide) (by decide) (by decide)
            refine lv_goto (tgt := 39) hx hb dX11_is_79 rfl ?_
            exact ih39 1 (v39_loc3 + Int32.ofInt 1) _ _ _ (ms_up (c := 1) (d := 0) b9 hm39 (by decide) (iv_inc 1 b9 (by decide) (by decide) (by decide) (by decide)) (by decide) rfl) ((iv_w ivk_1 (by decide) (by decide))) ((iv_w b18 (by decide) (by decide))) ((show 1 = 0 ∨ nI (lenL.getD i 0) = x0 7 - x0 6 from hie_39.elim (fun w => absurd w c1) Or.inr)) ((show IsR tT i x0 sS 1 (v39_loc3 + Int32.ofInt 1) from (by subst hTQ; exact is_y hir_39 c1 (hX 6 : iv 0 700 (x0 6)) (iv_w b9 (by decide) (by decide)) c15))) ((show x0 1 = x0 1 from rfl)) ((show x0 10 = x0 10 from rfl)) (hP) (hD) hS (lv_sub hl [2, 3, 1, 0] rfl)
  refine lv_aload_n hx hb dX11_is_0 rfl (lv_at hl 0 rfl) ?_
  refine va_get (D := (dC, dI)) (ci := 11) (v := .int (x0 8)) (C := RX11) (T := TX11) (N := 61) hx hb hts hin11 hown hK hP 0 rfl rfl 22 (Nat.le_of_ble_eq_true rfl) hw_2 (fun _ h9 => h9) rfl dX11_is_1 ?_
  refine lv_if_ne (tgt := 35) hx hb dX11_is_4 rfl (fun c19 => ?_) (fun c19 => ?_)
  · have b20 : iv 1 5 (x0 8) := iv_neLo c19 (hX 8 : iv 0 5 (x0 8)) ivk_0 (by decide) (by decide)
    refine lv_iconst (v := 0) hx hb dX11_is_35 ic_0 ?_
    refine lv_istore_n (lv' := [(2, .int 0), (0, .ref m0), (1, .ref (adK i))]) hx hb dX11_is_36 rfl hl (Nat.le_of_ble_eq_true rfl) rfl (fun ls hl => ?_)
    refine lv_iconst (v := 0) hx hb dX11_is_37 ic_0 ?_
    refine lv_istore_n (lv' := [(3, .int 0), (2, .int 0), (0, .ref m0), (1, .ref (adK i))]) hx hb dX11_is_38 rfl hl (Nat.le_of_ble_eq_true rfl) rfl (fun ls hl => ?_)
    exact hJ39 _ 0 0 _ _ _ (Nat.lt_succ_self _) ((iv_w ivk_0 (by decide) (by decide))) ((iv_w ivk_0 (by decide) (by decide))) ((show 0 = 0 ∨ nI (lenL.getD i 0) = x0 7 - x0 6 from Or.inl rfl)) ((show IsR tT i x0 sS 0 0 from is_b hRr c19)) ((show x0 1 = x0 1 from rfl)) ((show x0 10 = x0 10 from rfl)) (hP) (hD) hS (lv_sub hl [2, 3, 1, 0] rfl)
  · have b21 : iv 0 0 (x0 8) := iv_eqL c19 ivk_0
    refine lv_aload_n hx hb dX11_is_7 rfl (lv_at hl 0 rfl) ?_
    refine va_get (D := (dC, dI)) (ci := 11) (v := .int (x0 4)) (C := RX11) (T := TX11) (N := 61) hx hb hts hin11 hown hK hP 0 rfl rfl 18 (Nat.le_of_ble_eq_true rfl) hw_3 (fun _ h9 => h9) rfl dX11_is_8 ?_
    refine lv_iconst (v := 1) hx hb dX11_is_11 ic_1 ?_
    refine lv_icmp_ne (tgt := 35) hx hb dX11_is_12 rfl (fun c22 => ?_) (fun c22 => ?_)
    · refine lv_iconst (v := 0) hx hb dX11_is_35 ic_0 ?_
      refine lv_istore_n (lv' := [(2, .int 0), (0, .ref m0), (1, .ref (adK i))]) hx hb dX11_is_36 rfl hl (Nat.le_of_ble_eq_true rfl) rfl (fun ls hl => ?_)
      refine lv_iconst (v := 0) hx hb dX11_is_37 ic_0 ?_
      refine lv_istore_n (lv' := [(3, .int 0), (2, .int 0), (0, .ref m0), (1, .ref (adK i))]) hx hb dX11_is_38 rfl hl (Nat.le_of_ble_eq_true rfl) rfl (fun ls hl => ?_)
      exact hJ39 _ 0 0 _ _ _ (Nat.lt_succ_self _) ((iv_w ivk_0 (by decide) (by decide))) ((iv_w ivk_0 (by decide) (by decide))) ((show 0 = 0 ∨ nI (lenL.getD i 0) = x0 7 - x0 6 from Or.inl rfl)) ((show IsR tT i x0 sS 0 0 from is_t hRr c19 c22)) ((show x0 1 = x0 1 from rfl)) ((show x0 10 = x0 10 from rfl)) (hP) (hD) hS (lv_sub hl [2, 3, 1, 0] rfl)
    · have b23 : iv 1 1 (x0 4) := iv_eqL c22 ivk_1
      refine lv_aload_n hx hb dX11_is_15 rfl (lv_at hl 1 rfl) ?_
      obtain ⟨hPc, hDc, hFc, hJn⟩ := cl_a (wc := []) (wr := [(m0, .inr (11, oX11 ra x0)), (ra 13, .inl (kI, 700, .inl q_tape))]) hP hD hS hA [] [0, 1] rfl rfl (by decide +kernel)
      refine va_calli (va_runV (As := []) (rest := []) ⟨hx, hb, hml, hown, hts⟩ (sJ_length l dC dI kB kI kJ kZ kC kS s.heap.size adK adV i (hi)) (cwV 0 hts gX11_is_J0_length_8abf5 rfl rfl rfl (by decide +kernel) ⟨Nat.le_of_ble_eq_true rfl, Nat.le_of_ble_eq_true rfl⟩) ⟨fun a U g mk q => by obtain ⟨q0, q1, qP, qE, qD, qL⟩ := q; exact ⟨q0, q1, qP, kE_call qE, qD, kL_call qL⟩, kS_recv hKL.1 hi hS, fun U hU hW => ⟨rfl, by rw [hU], by rw [hU]; exact hPc, kE_warm hW hE, hDc.weaken (fun _ _ _ _ => trivial), kL_at hKL hS hFc hW hU⟩⟩ rfl rfl hl.1 rfl (lv_room (Nat.le_of_ble_eq_true rfl)) dX11_is_16 ⟨Nat.le_of_ble_eq_true rfl, Nat.le_of_ble_eq_true rfl⟩) hS (fun q _ h => hFc q h) hFc (fun r24 u t H locs ht hvm w25 hB hz1 hk1 hS => ?_)
      obtain ⟨hP1, hD1⟩ := hB
      try dsimp only at w25
      obtain ⟨hPa, hDa⟩ := hJn (w1 := []) hk1 ht hP1 hD1
      clear hP hD hPc hDc hFc hJn hP1 hD1 hk1
      have hP : va_P (dC, dI) vwCl [(m0, .inr (11, oX11 ra x0)), (ra 13, .inl (kI, 700, .inl q_tape))] H := hPa
      have hD : va_D A [(m0, .inr (11, oX11 ra x0)), (ra 13, .inl (kI, 700, .inl q_tape))] := hDa
      clear hPa hDa
      refine W.widen (k := 0) (n := 0) (Nat.le_of_ble_eq_true rfl) (Nat.le_of_ble_eq_true rfl) ?_
      obtain ⟨w25, b26⟩ := w25
      subst w25
      refine lv_aload_n hx hb dX11_is_19 rfl (lv_at hl 0 rfl) ?_
      refine va_get (D := (dC, dI)) (ci := 11) (v := .int (x0 7)) (C := RX11) (T := TX11) (N := 61) hx hb hts hin11 hown hK hP 0 rfl rfl 21 (Nat.le_of_ble_eq_true rfl) hw_4 (fun _ h9 => h9) rfl dX11_is_20 ?_
      refine lv_aload_n hx hb dX11_is_23 rfl (lv_at hl 0 rfl) ?_
      refine va_get (D := (dC, dI)) (ci := 11) (v := .int (x0 6)) (C := RX11) (T := TX11) (N := 61) hx hb hts hin11 hown hK hP 0 rfl rfl 20 (Nat.le_of_ble_eq_true rfl) hw_1 (fun _ h9 => h9) rfl dX11_is_24 ?_
      refine lv_isub hx hb dX11_is_27 ?_
      refine lv_icmp_ne (tgt := 35) hx hb dX11_is_28 rfl (fun c27 => ?_) (fun c27 => ?_)
      · refine lv_iconst (v := 0) hx hb dX11_is_35 ic_0 ?_
        refine lv_istore_n (lv' := [(2, .int 0), (0, .ref m0), (1, .ref (adK i))]) hx hb dX11_is_36 rfl hl (Nat.le_of_ble_eq_true rfl) rfl (fun ls hl => ?_)
        refine lv_iconst (v := 0) hx hb dX11_is_37 ic_0 ?_
        refine lv_istore_n (lv' := [(3, .int 0), (2, .int 0), (0, .ref m0), (1, .ref (adK i))]) hx hb dX11_is_38 rfl hl (Nat.le_of_ble_eq_true rfl) rfl (fun ls hl => ?_)
        exact hJ39 _ 0 0 _ _ _ (Nat.lt_succ_self _) ((iv_w ivk_0 (by decide) (by decide))) ((iv_w ivk_0 (by decide) (by decide))) ((show 0 = 0 ∨ nI (lenL.getD i 0) = x0 7 - x0 6 from Or.inl rfl)) ((show IsR tT i x0 sS 0 0 from is_l hRr c19 c27)) ((show x0 1 = x0 1 from rfl)) ((show x0 10 = x0 10 from rfl)) (hP) (hD) hS (lv_sub hl [2, 3, 1, 0] rfl)
      · have b28 : iv 0 699 ((x0 7) - (x0 6)) := iv_eqR c27 b26
        refine lv_iconst (v := 1) hx hb dX11_is_31 ic_1 ?_
        refine lv_goto (tgt := 36) hx hb dX11_is_32 rfl ?_
        refine lv_istore_n (lv' := [(2, .int 1), (0, .ref m0), (1, .ref (adK i))]) hx hb dX11_is_36 rfl hl (Nat.le_of_ble_eq_true rfl) rfl (fun ls hl => ?_)
        refine lv_iconst (v := 0) hx hb dX11_is_37 ic_0 ?_
        refine lv_istore_n (lv' := [(3, .int 0), (2, .int 1), (0, .ref m0), (1, .ref (adK i))]) hx hb dX11_is_38 rfl hl (Nat.le_of_ble_eq_true rfl) rfl (fun ls hl => ?_)
        exact hJ39 _ 1 0 _ _ _ (Nat.lt_succ_self _) ((iv_w ivk_1 (by decide) (by decide))) ((iv_w ivk_0 (by decide) (by decide))) ((show 1 = 0 ∨ nI (lenL.getD i 0) = x0 7 - x0 6 from Or.inr c27)) ((show IsR tT i x0 sS 1 0 from is_0 c19 c22 c27)) ((show x0 1 = x0 1 from rfl)) ((show x0 10 = x0 10 from rfl)) (hP) (hD) hS (lv_sub hl [2, 3, 1, 0] rfl)
def rm_s11_which : Room := { frames := 5, cells := 0, slots := 0, locals := 108 }
set_option maxHeartbeats 4000000 in
set_option maxRecDepth 100000 in
theorem s11_which (l : Launch) (dC : Nat → ClassId) (dI : Nat → Nat → Nat) (kB kI kJ kZ kC kS : ClassId) (sz : Nat) (adK : Nat → Nat) (adV : Nat → Nat) (m0 : Nat) (ra : Nat → Nat) (x0 : Nat → Int32) (q_tape : Nat → Int32) (b0 : Nat) (fw : Nat → Option Nat) (j0 : Nat) (tT : Nat → Int32) (nN : Int32) (sS : StT) (hX : fI lX11 hX11 x0) (hq_tape : fI (fun _ => 0) (fun _ => 255) q_tape) (hj : j0 ≤ 4) (hrow : ∀ k, k < 4 → fw k = some (adK (j0 + k))) (hRr : RRd tT nN x0 sS) (hTQ : tT = q_tape) : Met l yX11_which wsX11_which rm_s11_which (va_Pc [.ref m0, .ref b0] (fun U => U.heap.size = sz ∧ va_P (dC, dI) vwCl [(m0, .inr (11, oX11 ra x0)), (ra 13, .inl (kI, 700, .inl q_tape)), (b0, .inl (kS, 4, .inr (.inr (.inr (.inr fw)))))] U.heap ∧ kE dC dI kB kI kJ kZ kC kS U ∧ va_D (fun _ => True) [(m0, .inr (11, oX11 ra x0)), (ra 13, .inl (kI, 700, .inl q_tape)), (b0, .inl (kS, 4, .inr (.inr (.inr (.inr fw)))))] ∧ kL adK adV (va_A [(m0, .inr (11, oX11 ra x0)), (ra 13, .inl (kI, 700, .inl q_tape)), (b0, .inl (kS, 4, .inr (.inr (.inr (.inr fw)))))] sz) U)) (va_Qi (fun (r : Int32) (_ : Unit) => iv (-1) 3 r ∧ (r = whS tT j0 sS)) (fun _ t => va_P (dC, dI) vwCl [(m0, .inr (11, oX11 ra x0)), (ra 13, .inl (kI, 700, .inl q_tape)), (b0, .inl (kS, 4, .inr (.inr (.inr (.inr fw)))))] t.heap ∧ va_D (va_A [(m0, .inr (11, oX11 ra x0)), (ra 13, .inl (kI, 700, .inl q_tape)), (b0, .inl (kS, 4, .inr (.inr (.inr (.inr fw)))))] sz) [(m0, .inr (11, oX11 ra x0)), (ra 13, .inl (kI, 700, .inl q_tape)), (b0, .inl (kS, 4, .inr (.inr (.inr (.inr fw)))))]) (va_A [(m0, .inr (11, oX11 ra x0)), (ra 13, .inl (kI, 700, .inl q_tape)), (b0, .inl (kS, 4, .inr (.inr (.inr (.inr fw)))))] sz)) 0 0 (va_A [(m0, .inr (11, oX11 ra x0)), (ra 13, .inl (kI, 700, .inl q_tape)), (b0, .inl (kS, 4, .inr (.inr (.inr (.inr fw)))))] sz) := by
  refine Met.ofW (cc := cX11_which) (maxL := 3) (ret := (some .int)) (by decide) rfl ?_
  intro p e s m args0 below meth c s₁ B hml hv
  obtain ⟨hargs, hsz, hP, hE, hD0, hKL⟩ := hv
  have hx := B.exec
  have hb := B.bytes
  have hr := B.returns
  have hts := atoms_spec (ws := wsX11_which) B.pre
  have hown : s.vm.findClass RX11 = some m.cls := findClass_of_methodNamed B.named
  have hlocks := B.notSynchronized
  have hK := hE.1
  have hin11 : ∀ w ∈ wsX110, w ∈ wsX11_which := fun _ h9 => List.mem_cons_of_mem _ (List.mem_append_right _ h9)
  subst hsz
  have hD := hD0.self (sz := s.heap.size)
  generalize hAe : va_A [(m0, .inr (11, oX11 ra x0)), (ra 13, .inl (kI, 700, .inl q_tape)), (b0, .inl (kS, 4, .inr (.inr (.inr (.inr fw)))))] s.heap.size = A at hD hKL ⊢
  have hA : ∀ q : Nat, s.heap.size ≤ q → A q := fun q h => by rw [← hAe]; exact Or.inr h
  have hS : va_S A s.heap s.heap [] := va_S.rf
  have hP : va_P (dC, dI) vwCl [(m0, .inr (11, oX11 ra x0)), (ra 13, .inl (kI, 700, .inl q_tape)), (b0, .inl (kS, 4, .inr (.inr (.inr (.inr fw)))))] s.heap := hP
  have hl := lv_entry ([.ref m0, .ref b0]) (n := 3) (Nat.le_of_ble_eq_true rfl)
  have hla : entryFrame m args0 3 = entryFrame m ([.ref m0, .ref b0] : List Value).toArray 3 := by rw [hargs]
  rw [hla, lg_entry_eq]
  generalize (lg_sl ([.ref m0, .ref b0]) ++ List.replicate (3 - (lg_sl ([.ref m0, .ref b0])).length) Slot.unset).toArray = ls at hl ⊢
  have hl : lv_has ls 3 [(0, .ref m0), (1, .ref b0)] := hl
  have hJ2 : ∀ (n : Nat) (v2_loc2 : Int32) (H : Heap) (locs : List Loc) (ls : Array Slot), (4 - v2_loc2.toInt).toNat < n → iv 0 4 v2_loc2 → (∀ m : Nat, (m : Int) < v2_loc2.toInt → wS tT (j0 + m) sS = 0) → va_P (dC, dI) vwCl [(m0, .inr (11, oX11 ra x0)), (ra 13, .inl (kI, 700, .inl q_tape)), (b0, .inl (kS, 4, .inr (.inr (.inr (.inr fw)))))] H → va_D A [(m0, .inr (11, oX11 ra x0)), (ra 13, .inl (kI, 700, .inl q_tape)), (b0, .inl (kS, 4, .inr (.inr (.inr (.inr fw)))))] → va_S A s.heap H locs → lv_has ls 3 [(0, .ref m0), (1, .ref b0), (2, .int v2_loc2)] → W p l e (headSpec wsX11_which rm_s11_which).room s m args0 below meth c H locs (0) (0) (MQ below (va_Qi (fun (r : Int32) (_ : Unit) => iv (-1) 3 r ∧ (r = whS tT j0 sS)) (fun _ t => va_P (dC, dI) vwCl [(m0, .inr (11, oX11 ra x0)), (ra 13, .inl (kI, 700, .inl q_tape)), (b0, .inl (kS, 4, .inr (.inr (.inr (.inr fw)))))] t.heap ∧ va_D A [(m0, .inr (11, oX11 ra x0)), (ra 13, .inl (kI, 700, .inl q_tape)), (b0, .inl (kS, 4, .inr (.inr (.inr (.inr fw)))))]) A) args0 s 0 0 A) (F0 m 2 ls []) := by
    intro n
    induction n with
    | zero => intro v2_loc2 H locs ls hm2; exact absurd hm2 (Nat.not_lt_zero _)
    | succ n ih2 =>
      intro v2_loc2 H locs ls hm2 h2_1 hwh_2 hP hD hS hl
      refine lv_iload_n hx hb dX11_which_2 rfl (lv_at hl 2 rfl) ?_
      refine lv_aload_n hx hb dX11_which_3 rfl (lv_at hl 1 rfl) ?_
      refine va_alen (v := 4) hx hb hK hP 2 5 rfl rfl rfl dX11_which_4 ?_
      refine lv_icmp_ge (tgt := 26) hx hb dX11_which_5 rfl (fun c1 => ?_) (fun c1 => ?_)
      · have b2 : iv 4 4 v2_loc2 := iv_leR c1 ivk_4 h2_1 (by decide) (by decide)
        refine lv_iconst (v := (-1)) hx hb dX11_which_26 ic_m1 ?_
        have hP9 := hP
        have hD9 := hD
        exact W.iret (v := (-1)) hx hb hr (fun t ht hW => ⟨⟨(-1), (), rfl, ⟨(iv_w ivk_m1 (by decide) (by decide)), wh_n hwh_2 c1⟩, by rw [ht]; exact hP9, hD9⟩, hS.F ht⟩) hS.2.2 dX11_which_27
      · have b3 : iv 0 3 v2_loc2 := iv_ltL (Int32.not_le.mp c1) h2_1 ivk_4 (by decide) (by decide)
        refine lv_aload_n hx hb dX11_which_8 rfl (lv_at hl 0 rfl) ?_
        refine lv_aload_n hx hb dX11_which_9 rfl (lv_at hl 1 rfl) ?_
        refine lv_iload_n hx hb dX11_which_10 rfl (lv_at hl 2 rfl) ?_
        refine va_aldq hx hb hK hP 2 5 rfl rfl (iv_in b3 (by decide) (by decide)) dX11_which_11 ?_
        rw [hrow _ (by have q := b3; have q2 := q.1; have q3 := q.2; have q4 := cl_nat q (by decide); omega)]
        refine W.eq (g2 := F0 m 12 ls [.ref (adK (j0 + v2_loc2.toNatClampNeg)), .ref m0]) rfl ?_
        obtain ⟨hPc, hDc, hFc, hJn⟩ := cl_a (wc := [(m0, .inr (11, oX11 ra x0)), (ra 13, .inl (kI, 700, .inl q_tape))]) (wr := [(b0, .inl (kS, 4, .inr (.inr (.inr (.inr fw)))))]) hP hD hS hA [0, 1] [2] rfl rfl (by decide +kernel)
        refine va_calli (va_runV (As := [.ref (adK (j0 + v2_loc2.toNatClampNeg))]) (rest := []) ⟨hx, hb, hml, hown, hts⟩ (s11_is l dC dI kB kI kJ kZ kC kS H.size adK adV m0 ra x0 q_tape (j0 + v2_loc2.toNatClampNeg) tT nN sS (hX) (hq_tape) ((by have q := b3; have q2 := q.1; have q3 := q.2; have q4 := cl_nat q (by decide); omega)) (hRr) (hTQ)) (cwV 1 hts gX11_which_X11_is rfl rfl rfl (by decide +kernel) ⟨Nat.le_of_ble_eq_true rfl, Nat.le_of_ble_eq_true rfl⟩) ⟨fun a U g mk q => by obtain ⟨q0, q1, qP, qE, qD, qL⟩ := q; exact ⟨q0, q1, qP, kE_call qE, qD, kL_call qL⟩, va_recv hK hP (ci := 11) (q0 := 0) rfl rfl, fun U hU hW => ⟨rfl, by rw [hU], by rw [hU]; exact hPc, kE_warm hW hE, hDc.weaken (fun _ _ _ _ => trivial), kL_at hKL hS hFc hW hU⟩⟩ rfl rfl hl.1 rfl (lv_room (Nat.le_of_ble_eq_true rfl)) dX11_which_12 ⟨Nat.le_of_ble_eq_true rfl, Nat.le_of_ble_eq_true rfl⟩) hS (fun q _ h => hFc q h) hFc (fun r4 u t H locs ht hvm w5 hB hz1 hk1 hS => ?_)
        obtain ⟨hP1, hD1⟩ := hB
        try dsimp only at w5
        obtain ⟨hPa, hDa⟩ := hJn (w1 := [(m0, .inr (11, oX11 ra x0)), (ra 13, .inl (kI, 700, .inl q_tape))]) hk1 ht hP1 hD1
        clear hP hD hPc hDc hFc hJn hP1 hD1 hk1
        have hP : va_P (dC, dI) vwCl [(b0, .inl (kS, 4, .inr (.inr (.inr (.inr fw))))), (m0, .inr (11, oX11 ra x0)), (ra 13, .inl (kI, 700, .inl q_tape))] H := hPa
        have hD : va_D A [(b0, .inl (kS, 4, .inr (.inr (.inr (.inr fw))))), (m0, .inr (11, oX11 ra x0)), (ra 13, .inl (kI, 700, .inl q_tape))] := hDa
        clear hPa hDa
        refine W.widen (k := 0) (n := 0) (Nat.le_of_ble_eq_true rfl) (Nat.le_of_ble_eq_true rfl) ?_
        obtain ⟨w5, b6⟩ := w5
        subst w5
        refine lv_if_eq (tgt := 20) hx hb dX11_which_15 rfl (fun c7 => ?_) (fun c7 => ?_)
        · have b8 : iv 0 0 (wS tT (j0 + v2_loc2.toNatClampNeg) sS) := iv_eqL c7 ivk_0
          refine lv_iinc (v := v2_loc2 + Int32.ofInt 1) (lv' := [(2, .int (v2_loc2 + Int32.ofInt 1)), (0, .ref m0), (1, .ref b0)]) hx hb dX11_which_20 hl (k := 2) rfl (rfl) (Nat.le_of_ble_eq_true rfl) rfl (fun ls hl => ?_)
          have b9 : iv 1 4 (v2_loc2 + Int32.ofInt 1) := iv_add b3 ivo_1 (by decide) (by decide) (by decide) (by decide)
          refine lv_goto (tgt := 2) hx hb dX11_which_23 rfl ?_
          have hPD9 := cl_s (wc := [(m0, .inr (11, oX11 ra x0)), (ra 13, .inl (kI, 700, .inl q_tape)), (b0, .inl (kS, 4, .inr (.inr (.inr (.inr fw)))))]) hP hD [1, 2, 0] rfl (by decide +kernel)
          exact ih2 (v2_loc2 + Int32.ofInt 1) _ _ _ (ms_up (c := 1) (d := 0) b3 hm2 (by decide) (iv_inc 1 b3 (by decide) (by decide) (by decide) (by decide)) (by decide) rfl) ((iv_w b9 (by decide) (by decide))) ((show ∀ m : Nat, (m : Int) < (v2_loc2 + Int32.ofInt 1).toInt → wS tT (j0 + m) sS = 0 from al_s (P := fun m => wS tT (j0 + m) sS = 0) hwh_2 (iv_w b3 (by decide) (by decide)) c7)) (hPD9.1) (hPD9.2) hS (lv_sub hl [1, 2, 0] rfl)
        · have b10 : iv 1 1 (wS tT (j0 + v2_loc2.toNatClampNeg) sS) := iv_neLo c7 b6 ivk_0 (by decide) (by decide)
          refine lv_iload_n hx hb dX11_which_18 rfl (lv_at hl 2 rfl) ?_
          have hPD9 := cl_s (wc := [(m0, .inr (11, oX11 ra x0)), (ra 13, .inl (kI, 700, .inl q_tape)), (b0, .inl (kS, 4, .inr (.inr (.inr (.inr fw)))))]) hP hD [1, 2, 0] rfl (by decide +kernel)
          have hP9 := hPD9.1
          have hD9 := hPD9.2
          exact W.iret (v := v2_loc2) hx hb hr (fun t ht hW => ⟨⟨v2_loc2, (), rfl, ⟨(iv_w b3 (by decide) (by decide)), wh_y hwh_2 b3 c7⟩, by rw [ht]; exact hP9, hD9⟩, hS.F ht⟩) hS.2.2 dX11_which_19
  refine lv_iconst (v := 0) hx hb dX11_which_0 ic_0 ?_
  refine lv_istore_n (lv' := [(2, .int 0), (0, .ref m0), (1, .ref b0)]) hx hb dX11_which_1 rfl hl (Nat.le_of_ble_eq_true rfl) rfl (fun ls hl => ?_)
  exact hJ2 _ 0 _ _ _ (Nat.lt_succ_self _) ((iv_w ivk_0 (by decide) (by decide))) ((show ∀ m : Nat, (m : Int) < ((0 : Int32)).toInt → wS tT (j0 + m) sS = 0 from al_0)) (hP) (hD) hS (lv_sub hl [1, 2, 0] rfl)
def rm_s11_numberNow_0_11 : Room := { frames := 1, cells := 0, slots := 0, locals := 21 }
set_option maxHeartbeats 4000000 in
set_option maxRecDepth 100000 in
theorem s11_numberNow_0_11 (l : Launch) (dC : Nat → ClassId) (dI : Nat → Nat → Nat) (kB kI kJ kZ kC kS : ClassId) (sz : Nat) (m0 : Nat) (ra : Nat → Nat) (x0 : Nat → Int32) (tT : Nat → Int32) (nN : Int32) (sS : StT) (hX : fI lX11 hX11 x0) (hRr : RRd tT nN x0 sS) : Met l yX11_numberNow wsX11_numberNow rm_s11_numberNow_0_11 (va_Pc [.ref m0, .int 0, .int 11] (fun U => U.heap.size = sz ∧ va_P (dC, dI) vwCl [(m0, .inr (11, oX11 ra x0))] U.heap ∧ kE dC dI kB kI kJ kZ kC kS U ∧ va_D (fun _ => True) [(m0, .inr (11, oX11 ra x0))])) (va_Qi (fun (r : Int32) (_ : Unit) => iv 0 11 r ∧ (okT (numT tT 0 11 sS) → r = valS tT sS)) (fun _ t => ∃ (x0' : Nat → Int32), fI lX11 hX11 x0' ∧ ((x0' 2).toInt = (x0 2).toInt) ∧ (x0' 3 = x0 3) ∧ (RRd tT nN x0' (numT tT 0 11 sS)) ∧ (x0' 1 = x0 1) ∧ (x0' 10 = x0 10) ∧ va_P (dC, dI) vwCl [(m0, .inr (11, oX11 ra x0'))] t.heap ∧ va_D (va_A [(m0, .inr (11, oX11 ra x0))] sz) [(m0, .inr (11, oX11 ra x0'))]) (va_A [(m0, .inr (11, oX11 ra x0))] sz)) 0 0 (va_A [(m0, .inr (11, oX11 ra x0))] sz) := by
  refine Met.ofW (cc := cX11_numberNow) (maxL := 3) (ret := (some .int)) (by decide) rfl ?_
  intro p e s m args0 below meth c s₁ B hml hv
  obtain ⟨hargs, hsz, hP, hE, hD0⟩ := hv
  have hx := B.exec
  have hb := B.bytes
  have hr := B.returns
  have hts := atoms_spec (ws := wsX11_numberNow) B.pre
  have hown : s.vm.findClass RX11 = some m.cls := findClass_of_methodNamed B.named
  have hlocks := B.notSynchronized
  have hK := hE.1
  have hin11 : ∀ w ∈ wsX110, w ∈ wsX11_numberNow := fun _ h9 => List.mem_cons_of_mem _ (List.mem_append_right _ h9)
  have hw_0 := hts (.fieldLink RX11 184 "PathProberModel" "bad" "I") (List.mem_of_getElem? (i := 1) rfl)
  have hw_1 := hts (.fieldLink RX11 161 "PathProberModel" "token" "I") (List.mem_of_getElem? (i := 2) rfl)
  have hw_2 := hts (.fieldLink RX11 181 "PathProberModel" "stops" "I") (List.mem_of_getElem? (i := 3) rfl)
  have hw_3 := hts (.fieldLink RX11 158 "PathProberModel" "begins" "I") (List.mem_of_getElem? (i := 4) rfl)
  have hw_4 := hts (.fieldLink RX11 171 "PathProberModel" "number" "I") (List.mem_of_getElem? (i := 5) rfl)
  subst hsz
  have hD := hD0.self (sz := s.heap.size)
  generalize hAe : va_A [(m0, .inr (11, oX11 ra x0))] s.heap.size = A at hD ⊢
  have hA : ∀ q : Nat, s.heap.size ≤ q → A q := fun q h => by rw [← hAe]; exact Or.inr h
  have hS : va_S A s.heap s.heap [] := va_S.rf
  have hP : va_P (dC, dI) vwCl [(m0, .inr (11, oX11 ra x0))] s.heap := hP
  have hl := lv_entry ([.ref m0, .int 0, .int 11]) (n := 3) (Nat.le_of_ble_eq_true rfl)
  have hla : entryFrame m args0 3 = entryFrame m ([.ref m0, .int 0, .int 11] : List Value).toArray 3 := by rw [hargs]
  rw [hla, lg_entry_eq]
  generalize (lg_sl ([.ref m0, .int 0, .int 11]) ++ List.replicate (3 - (lg_sl ([.ref m0, .int 0, .int 11])).length) Slot.unset).toArray = ls at hl ⊢
  have hl : lv_has ls 3 [(0, .ref m0), (1, .int 0), (2, .int 11)] := hl
  refine lv_aload_n hx hb dX11_numberNow_0 rfl (lv_at hl 0 rfl) ?_
  refine va_get (D := (dC, dI)) (ci := 11) (v := .int (x0 8)) (C := RX11) (T := TX11) (N := 61) hx hb hts hin11 hown hK hP 0 rfl rfl 22 (Nat.le_of_ble_eq_true rfl) hw_0 (fun _ h9 => h9) rfl dX11_numberNow_1 ?_
  refine lv_if_eq (tgt := 9) hx hb dX11_numberNow_4 rfl (fun c1 => ?_) (fun c1 => ?_)
  · have b2 : iv 0 0 (x0 8) := iv_eqL c1 ivk_0
    refine lv_aload_n hx hb dX11_numberNow_9 rfl (lv_at hl 0 rfl) ?_
    refine va_get (D := (dC, dI)) (ci := 11) (v := .int (x0 4)) (C := RX11) (T := TX11) (N := 61) hx hb hts hin11 hown hK hP 0 rfl rfl 18 (Nat.le_of_ble_eq_true rfl) hw_1 (fun _ h9 => h9) rfl dX11_numberNow_10 ?_
    refine lv_iconst (v := 2) hx hb dX11_numberNow_13 ic_2 ?_
    refine lv_icmp_eq (tgt := 25) hx hb dX11_numberNow_14 rfl (fun c3 => ?_) (fun c3 => ?_)
    · have b4 : iv 2 2 (x0 4) := iv_eqL c3 ivk_2
      refine lv_aload_n hx hb dX11_numberNow_25 rfl (lv_at hl 0 rfl) ?_
      refine va_get (D := (dC, dI)) (ci := 11) (v := .int (x0 7)) (C := RX11) (T := TX11) (N := 61) hx hb hts hin11 hown hK hP 0 rfl rfl 21 (Nat.le_of_ble_eq_true rfl) hw_2 (fun _ h9 => h9) rfl dX11_numberNow_26 ?_
      refine lv_aload_n hx hb dX11_numberNow_29 rfl (lv_at hl 0 rfl) ?_
      refine va_get (D := (dC, dI)) (ci := 11) (v := .int (x0 6)) (C := RX11) (T := TX11) (N := 61) hx hb hts hin11 hown hK hP 0 rfl rfl 20 (Nat.le_of_ble_eq_true rfl) hw_3 (fun _ h9 => h9) rfl dX11_numberNow_30 ?_
      refine lv_isub hx hb dX11_numberNow_33 ?_
      have b5 : iv (-700) 700 ((x0 7) - (x0 6)) := iv_sub (hX 7 : iv 0 700 (x0 7)) (hX 6 : iv 0 700 (x0 6)) (by decide) (by decide) (by decide) (by decide)
      refine lv_iconst (v := 2) hx hb dX11_numberNow_34 ic_2 ?_
      refine lv_icmp_gt (tgt := 54) hx hb dX11_numberNow_35 rfl (fun c6 => ?_) (fun c6 => ?_)
      · have b7 : iv 3 700 ((x0 7) - (x0 6)) := iv_ltR c6 ivk_2 b5 (by decide) (by decide)
        refine lv_aload_n hx hb dX11_numberNow_54 rfl (lv_at hl 0 rfl) ?_
        refine lv_iconst (v := 2) hx hb dX11_numberNow_55 ic_2 ?_
        obtain ⟨hPc, hDc, hFc, hJn⟩ := cl_a (wc := [(m0, .inr (11, oX11 ra x0))]) (wr := []) hP hD hS hA [0] [] rfl rfl (by decide +kernel)
        refine va_callv (va_runV (As := [.int 2]) (rest := []) ⟨hx, hb, hml, hown, hts⟩ (s11_wrong l dC dI kB kI kJ kZ kC kS s.heap.size m0 ra x0 2 tT nN sS (hX) ((iv_w ivk_2 (by decide) (by decide))) (hRr)) (cwV 1 hts gX11_numberNow_X11_wrong rfl rfl rfl (by decide +kernel) ⟨Nat.le_of_ble_eq_true rfl, Nat.le_of_ble_eq_true rfl⟩) ⟨fun a U g mk q => by obtain ⟨q0, q1, qP, qE, qD⟩ := q; exact ⟨q0, q1, qP, kE_call qE, qD⟩, va_recv hK hP (ci := 11) (q0 := 0) rfl rfl, fun U hU hW => ⟨rfl, by rw [hU], by rw [hU]; exact hPc, kE_warm hW hE, hDc.weaken (fun _ _ _ _ => trivial)⟩⟩ rfl rfl hl.1 rfl (lv_room (Nat.le_of_ble_eq_true rfl)) dX11_numberNow_56 ⟨Nat.le_of_ble_eq_true rfl, Nat.le_of_ble_eq_true rfl⟩) hS (fun q _ h => hFc q h) hFc (fun u t H locs ht hvm w9 hB hz1 hk1 hS => ?_)
        obtain ⟨y10, hq11, hq12, hq13, hq14, hq15, hq16, hq17, hP1, hD1⟩ := hB
        try dsimp only at w9
        obtain ⟨hPa, hDa⟩ := hJn (w1 := [(m0, .inr (11, oX11 ra y10))]) hk1 ht hP1 hD1
        clear hP hD hPc hDc hFc hJn hP1 hD1 hk1
        have hP : va_P (dC, dI) vwCl [(m0, .inr (11, oX11 ra y10))] H := hPa
        have hD : va_D A [(m0, .inr (11, oX11 ra y10))] := hDa
        clear hPa hDa
        refine W.widen (k := 0) (n := 0) (Nat.le_of_ble_eq_true rfl) (Nat.le_of_ble_eq_true rfl) ?_
        refine lv_aload_n hx hb dX11_numberNow_59 rfl (lv_at hl 0 rfl) ?_
        refine va_get (D := (dC, dI)) (ci := 11) (v := .int (y10 8)) (C := RX11) (T := TX11) (N := 61) hx hb hts hin11 hown hK hP 0 rfl rfl 22 (Nat.le_of_ble_eq_true rfl) hw_0 (fun _ h9 => h9) rfl dX11_numberNow_60 ?_
        refine lv_if_ne (tgt := 73) hx hb dX11_numberNow_63 rfl (fun _ => ?_) (fun c9 => absurd c9 (iv_ne hq12 ivk_0 (by decide)))
        refine lv_iload_n hx hb dX11_numberNow_73 rfl (lv_at hl 1 rfl) ?_
        have hP9 := hP
        have hD9 := hD
        exact W.iret (v := 0) hx hb hr (fun t ht hW => ⟨⟨0, (), rfl, ⟨(iv_w ivk_0 (by decide) (by decide)), fun hk => (ok_fail ((nr_2 hRr c3 c6).symm ▸ hk)).elim⟩, y10, hq11, (show (y10 2).toInt = (x0 2).toInt from by omega), (show y10 3 = x0 3 from hq14), (show RRd tT nN y10 (numT tT 0 11 sS) from (nr_2 hRr c3 c6) ▸ hq15), (show y10 1 = x0 1 from hq16), (show y10 10 = x0 10 from hq17), by rw [ht]; exact hP9, hD9⟩, hS.F ht⟩) hS.2.2 dX11_numberNow_74
      · have b18 : iv (-700) 2 ((x0 7) - (x0 6)) := iv_leL (Int32.not_lt.mp c6) b5 ivk_2 (by decide) (by decide)
        refine lv_aload_n hx hb dX11_numberNow_38 rfl (lv_at hl 0 rfl) ?_
        refine va_get (D := (dC, dI)) (ci := 11) (v := .int (x0 5)) (C := RX11) (T := TX11) (N := 61) hx hb hts hin11 hown hK hP 0 rfl rfl 19 (Nat.le_of_ble_eq_true rfl) hw_4 (fun _ h9 => h9) rfl dX11_numberNow_39 ?_
        refine lv_iload_n hx hb dX11_numberNow_42 rfl (lv_at hl 1 rfl) ?_
        refine lv_icmp_lt (tgt := 54) hx hb dX11_numberNow_43 rfl (fun c19 => ?_) (fun c19 => ?_)
        · have b20 : iv (-2147483648) (-1) (x0 5) := iv_ltL c19 (hX 5 : iv (-2147483648) 2147483647 (x0 5)) ivk_0 (by decide) (by decide)
          refine lv_aload_n hx hb dX11_numberNow_54 rfl (lv_at hl 0 rfl) ?_
          refine lv_iconst (v := 2) hx hb dX11_numberNow_55 ic_2 ?_
          obtain ⟨hPc, hDc, hFc, hJn⟩ := cl_a (wc := [(m0, .inr (11, oX11 ra x0))]) (wr := []) hP hD hS hA [0] [] rfl rfl (by decide +kernel)
          refine va_callv (va_runV (As := [.int 2]) (rest := []) ⟨hx, hb, hml, hown, hts⟩ (s11_wrong l dC dI kB kI kJ kZ kC kS s.heap.size m0 ra x0 2 tT nN sS (hX) ((iv_w ivk_2 (by decide) (by decide))) (hRr)) (cwV 1 hts gX11_numberNow_X11_wrong rfl rfl rfl (by decide +kernel) ⟨Nat.le_of_ble_eq_true rfl, Nat.le_of_ble_eq_true rfl⟩) ⟨fun a U g mk q => by obtain ⟨q0, q1, qP, qE, qD⟩ := q; exact ⟨q0, q1, qP, kE_call qE, qD⟩, va_recv hK hP (ci := 11) (q0 := 0) rfl rfl, fun U hU hW => ⟨rfl, by rw [hU], by rw [hU]; exact hPc, kE_warm hW hE, hDc.weaken (fun _ _ _ _ => trivial)⟩⟩ rfl rfl hl.1 rfl (lv_room (Nat.le_of_ble_eq_true rfl)) dX11_numberNow_56 ⟨Nat.le_of_ble_eq_true rfl, Nat.le_of_ble_eq_true rfl⟩) hS (fun q _ h => hFc q h) hFc (fun u t H locs ht hvm w22 hB hz1 hk1 hS => ?_)
          obtain ⟨y23, hq24, hq25, hq26, hq27, hq28, hq29, hq30, hP1, hD1⟩ := hB
          try dsimp only at w22
          obtain ⟨hPa, hDa⟩ := hJn (w1 := [(m0, .inr (11, oX11 ra y23))]) hk1 ht hP1 hD1
          clear hP hD hPc hDc hFc hJn hP1 hD1 hk1
          have hP : va_P (dC, dI) vwCl [(m0, .inr (11, oX11 ra y23))] H := hPa
          have hD : va_D A [(m0, .inr (11, oX11 ra y23))] := hDa
          clear hPa hDa
          refine W.widen (k := 0) (n := 0) (Nat.le_of_ble_eq_true rfl) (Nat.le_of_ble_eq_true rfl) ?_
          refine lv_aload_n hx hb dX11_numberNow_59 rfl (lv_at hl 0 rfl) ?_
          refine va_get (D := (dC, dI)) (ci := 11) (v := .int (y23 8)) (C := RX11) (T := TX11) (N := 61) hx hb hts hin11 hown hK hP 0 rfl rfl 22 (Nat.le_of_ble_eq_true rfl) hw_0 (fun _ h9 => h9) rfl dX11_numberNow_60 ?_
          refine lv_if_ne (tgt := 73) hx hb dX11_numberNow_63 rfl (fun _ => ?_) (fun c9 => absurd c9 (iv_ne hq25 ivk_0 (by decide)))
          refine lv_iload_n hx hb dX11_numberNow_73 rfl (lv_at hl 1 rfl) ?_
          have hP9 := hP
          have hD9 := hD
          exact W.iret (v := 0) hx hb hr (fun t ht hW => ⟨⟨0, (), rfl, ⟨(iv_w ivk_0 (by decide) (by decide)), fun hk => (ok_fail ((nr_3 hRr c3 (Int32.not_lt.mp c6) (Or.inl c19)).symm ▸ hk)).elim⟩, y23, hq24, (show (y23 2).toInt = (x0 2).toInt from by omega), (show y23 3 = x0 3 from hq27), (show RRd tT nN y23 (numT tT 0 11 sS) from (nr_3 hRr c3 (Int32.not_lt.mp c6) (Or.inl c19)) ▸ hq28), (show y23 1 = x0 1 from hq29), (show y23 10 = x0 10 from hq30), by rw [ht]; exact hP9, hD9⟩, hS.F ht⟩) hS.2.2 dX11_numberNow_74
        · have b31 : iv 0 2147483647 (x0 5) := iv_leR (Int32.not_lt.mp c19) ivk_0 (hX 5 : iv (-2147483648) 2147483647 (x0 5)) (by decide) (by decide)
          refine lv_aload_n hx hb dX11_numberNow_46 rfl (lv_at hl 0 rfl) ?_
          refine va_get (D := (dC, dI)) (ci := 11) (v := .int (x0 5)) (C := RX11) (T := TX11) (N := 61) hx hb hts hin11 hown hK hP 0 rfl rfl 19 (Nat.le_of_ble_eq_true rfl) hw_4 (fun _ h9 => h9) rfl dX11_numberNow_47 ?_
          refine lv_iload_n hx hb dX11_numberNow_50 rfl (lv_at hl 2 rfl) ?_
          refine lv_icmp_le (tgt := 59) hx hb dX11_numberNow_51 rfl (fun c32 => ?_) (fun c32 => ?_)
          · have b33 : iv 0 11 (x0 5) := iv_leL c32 b31 ivk_11 (by decide) (by decide)
            refine lv_aload_n hx hb dX11_numberNow_59 rfl (lv_at hl 0 rfl) ?_
            refine va_get (D := (dC, dI)) (ci := 11) (v := .int (x0 8)) (C := RX11) (T := TX11) (N := 61) hx hb hts hin11 hown hK hP 0 rfl rfl 22 (Nat.le_of_ble_eq_true rfl) hw_0 (fun _ h9 => h9) rfl dX11_numberNow_60 ?_
            refine lv_if_ne (tgt := 73) hx hb dX11_numberNow_63 rfl (fun c9 => absurd (c1) c9) (fun _ => ?_)
            refine lv_aload_n hx hb dX11_numberNow_66 rfl (lv_at hl 0 rfl) ?_
            refine va_get (D := (dC, dI)) (ci := 11) (v := .int (x0 5)) (C := RX11) (T := TX11) (N := 61) hx hb hts hin11 hown hK hP 0 rfl rfl 19 (Nat.le_of_ble_eq_true rfl) hw_4 (fun _ h9 => h9) rfl dX11_numberNow_67 ?_
            refine lv_goto (tgt := 74) hx hb dX11_numberNow_70 rfl ?_
            have hP9 := hP
            have hD9 := hD
            exact W.iret (v := x0 5) hx hb hr (fun t ht hW => ⟨⟨x0 5, (), rfl, ⟨b33, fun _ => (nr_ok hRr c1 c3 (Int32.not_lt.mp c6) (Int32.not_lt.mp c19) c32).2⟩, x0, hX, (show (x0 2).toInt = (x0 2).toInt from by omega), (show x0 3 = x0 3 from rfl), (show RRd tT nN x0 (numT tT 0 11 sS) from (nr_ok hRr c1 c3 (Int32.not_lt.mp c6) (Int32.not_lt.mp c19) c32).1 ▸ hRr), (show x0 1 = x0 1 from rfl), (show x0 10 = x0 10 from rfl), by rw [ht]; exact hP9, hD9⟩, hS.F ht⟩) hS.2.2 dX11_numberNow_74
          · have b34 : iv 12 2147483647 (x0 5) := iv_ltR (Int32.not_le.mp c32) ivk_11 b31 (by decide) (by decide)
            refine lv_aload_n hx hb dX11_numberNow_54 rfl (lv_at hl 0 rfl) ?_
            refine lv_iconst (v := 2) hx hb dX11_numberNow_55 ic_2 ?_
            obtain ⟨hPc, hDc, hFc, hJn⟩ := cl_a (wc := [(m0, .inr (11, oX11 ra x0))]) (wr := []) hP hD hS hA [0] [] rfl rfl (by decide +kernel)
            refine va_callv (va_runV (As := [.int 2]) (rest := []) ⟨hx, hb, hml, hown, hts⟩ (s11_wrong l dC dI kB kI kJ kZ kC kS s.heap.size m0 ra x0 2 tT nN sS (hX) ((iv_w ivk_2 (by decide) (by decide))) (hRr)) (cwV 1 hts gX11_numberNow_X11_wrong rfl rfl rfl (by decide +kernel) ⟨Nat.le_of_ble_eq_true rfl, Nat.le_of_ble_eq_true rfl⟩) ⟨fun a U g mk q => by obtain ⟨q0, q1, qP, qE, qD⟩ := q; exact ⟨q0, q1, qP, kE_call qE, qD⟩, va_recv hK hP (ci := 11) (q0 := 0) rfl rfl, fun U hU hW => ⟨rfl, by rw [hU], by rw [hU]; exact hPc, kE_warm hW hE, hDc.weaken (fun _ _ _ _ => trivial)⟩⟩ rfl rfl hl.1 rfl (lv_room (Nat.le_of_ble_eq_true rfl)) dX11_numberNow_56 ⟨Nat.le_of_ble_eq_true rfl, Nat.le_of_ble_eq_true rfl⟩) hS (fun q _ h => hFc q h) hFc (fun u t H locs ht hvm w36 hB hz1 hk1 hS => ?_)
            obtain ⟨y37, hq38, hq39, hq40, hq41, hq42, hq43, hq44, hP1, hD1⟩ := hB
            try dsimp only at w36
            obtain ⟨hPa, hDa⟩ := hJn (w1 := [(m0, .inr (11, oX11 ra y37))]) hk1 ht hP1 hD1
            clear hP hD hPc hDc hFc hJn hP1 hD1 hk1
            have hP : va_P (dC, dI) vwCl [(m0, .inr (11, oX11 ra y37))] H := hPa
            have hD : va_D A [(m0, .inr (11, oX11 ra y37))] := hDa
            clear hPa hDa
            refine W.widen (k := 0) (n := 0) (Nat.le_of_ble_eq_true rfl) (Nat.le_of_ble_eq_true rfl) ?_
            refine lv_aload_n hx hb dX11_numberNow_59 rfl (lv_at hl 0 rfl) ?_
            refine va_get (D := (dC, dI)) (ci := 11) (v := .int (y37 8)) (C := RX11) (T := TX11) (N := 61) hx hb hts hin11 hown hK hP 0 rfl rfl 22 (Nat.le_of_ble_eq_true rfl) hw_0 (fun _ h9 => h9) rfl dX11_numberNow_60 ?_
            refine lv_if_ne (tgt := 73) hx hb dX11_numberNow_63 rfl (fun _ => ?_) (fun c9 => absurd c9 (iv_ne hq39 ivk_0 (by decide)))
            refine lv_iload_n hx hb dX11_numberNow_73 rfl (lv_at hl 1 rfl) ?_
            have hP9 := hP
            have hD9 := hD
            exact W.iret (v := 0) hx hb hr (fun t ht hW => ⟨⟨0, (), rfl, ⟨(iv_w ivk_0 (by decide) (by decide)), fun hk => (ok_fail ((nr_3 hRr c3 (Int32.not_lt.mp c6) (Or.inr (Int32.not_le.mp c32))).symm ▸ hk)).elim⟩, y37, hq38, (show (y37 2).toInt = (x0 2).toInt from by omega), (show y37 3 = x0 3 from hq41), (show RRd tT nN y37 (numT tT 0 11 sS) from (nr_3 hRr c3 (Int32.not_lt.mp c6) (Or.inr (Int32.not_le.mp c32))) ▸ hq42), (show y37 1 = x0 1 from hq43), (show y37 10 = x0 10 from hq44), by rw [ht]; exact hP9, hD9⟩, hS.F ht⟩) hS.2.2 dX11_numberNow_74
    · refine lv_aload_n hx hb dX11_numberNow_17 rfl (lv_at hl 0 rfl) ?_
      refine lv_iconst (v := 1) hx hb dX11_numberNow_18 ic_1 ?_
      obtain ⟨hPc, hDc, hFc, hJn⟩ := cl_a (wc := [(m0, .inr (11, oX11 ra x0))]) (wr := []) hP hD hS hA [0] [] rfl rfl (by decide +kernel)
      refine va_callv (va_runV (As := [.int 1]) (rest := []) ⟨hx, hb, hml, hown, hts⟩ (s11_wrong l dC dI kB kI kJ kZ kC kS s.heap.size m0 ra x0 1 tT nN sS (hX) ((iv_w ivk_1 (by decide) (by decide))) (hRr)) (cwV 1 hts gX11_numberNow_X11_wrong rfl rfl rfl (by decide +kernel) ⟨Nat.le_of_ble_eq_true rfl, Nat.le_of_ble_eq_true rfl⟩) ⟨fun a U g mk q => by obtain ⟨q0, q1, qP, qE, qD⟩ := q; exact ⟨q0, q1, qP, kE_call qE, qD⟩, va_recv hK hP (ci := 11) (q0 := 0) rfl rfl, fun U hU hW => ⟨rfl, by rw [hU], by rw [hU]; exact hPc, kE_warm hW hE, hDc.weaken (fun _ _ _ _ => trivial)⟩⟩ rfl rfl hl.1 rfl (lv_room (Nat.le_of_ble_eq_true rfl)) dX11_numberNow_19 ⟨Nat.le_of_ble_eq_true rfl, Nat.le_of_ble_eq_true rfl⟩) hS (fun q _ h => hFc q h) hFc (fun u t H locs ht hvm w46 hB hz1 hk1 hS => ?_)
      obtain ⟨y47, hq48, hq49, hq50, hq51, hq52, hq53, hq54, hP1, hD1⟩ := hB
      try dsimp only at w46
      obtain ⟨hPa, hDa⟩ := hJn (w1 := [(m0, .inr (11, oX11 ra y47))]) hk1 ht hP1 hD1
      clear hP hD hPc hDc hFc hJn hP1 hD1 hk1
      have hP : va_P (dC, dI) vwCl [(m0, .inr (11, oX11 ra y47))] H := hPa
      have hD : va_D A [(m0, .inr (11, oX11 ra y47))] := hDa
      clear hPa hDa
      refine W.widen (k := 0) (n := 0) (Nat.le_of_ble_eq_true rfl) (Nat.le_of_ble_eq_true rfl) ?_
      refine lv_goto (tgt := 59) hx hb dX11_numberNow_22 rfl ?_
      refine lv_aload_n hx hb dX11_numberNow_59 rfl (lv_at hl 0 rfl) ?_
      refine va_get (D := (dC, dI)) (ci := 11) (v := .int (y47 8)) (C := RX11) (T := TX11) (N := 61) hx hb hts hin11 hown hK hP 0 rfl rfl 22 (Nat.le_of_ble_eq_true rfl) hw_0 (fun _ h9 => h9) rfl dX11_numberNow_60 ?_
      refine lv_if_ne (tgt := 73) hx hb dX11_numberNow_63 rfl (fun _ => ?_) (fun c9 => absurd c9 (iv_ne hq49 ivk_0 (by decide)))
      refine lv_iload_n hx hb dX11_numberNow_73 rfl (lv_at hl 1 rfl) ?_
      have hP9 := hP
      have hD9 := hD
      exact W.iret (v := 0) hx hb hr (fun t ht hW => ⟨⟨0, (), rfl, ⟨(iv_w ivk_0 (by decide) (by decide)), fun hk => (ok_fail ((nr_1 hRr c3).symm ▸ hk)).elim⟩, y47, hq48, (show (y47 2).toInt = (x0 2).toInt from by omega), (show y47 3 = x0 3 from hq51), (show RRd tT nN y47 (numT tT 0 11 sS) from (nr_1 hRr c3) ▸ hq52), (show y47 1 = x0 1 from hq53), (show y47 10 = x0 10 from hq54), by rw [ht]; exact hP9, hD9⟩, hS.F ht⟩) hS.2.2 dX11_numberNow_74
  · have b55 : iv 1 5 (x0 8) := iv_neLo c1 (hX 8 : iv 0 5 (x0 8)) ivk_0 (by decide) (by decide)
    refine lv_iload_n hx hb dX11_numberNow_7 rfl (lv_at hl 1 rfl) ?_
    have hP9 := hP
    have hD9 := hD
    exact W.iret (v := 0) hx hb hr (fun t ht hW => ⟨⟨0, (), rfl, ⟨(iv_w ivk_0 (by decide) (by decide)), fun hk => absurd (ok_num hk) (rr_no hRr c1)⟩, x0, hX, (show (x0 2).toInt = (x0 2).toInt from by omega), (show x0 3 = x0 3 from rfl), (show RRd tT nN x0 (numT tT 0 11 sS) from nr_b hRr c1 ▸ hRr), (show x0 1 = x0 1 from rfl), (show x0 10 = x0 10 from rfl), by rw [ht]; exact hP9, hD9⟩, hS.F ht⟩) hS.2.2 dX11_numberNow_8
def rm_s11_numberNow_0_15 : Room := { frames := 1, cells := 0, slots := 0, locals := 21 }
set_option maxHeartbeats 4000000 in
set_option maxRecDepth 100000 in
theorem s11_numberNow_0_15 (l : Launch) (dC : Nat → ClassId) (dI : Nat → Nat → Nat) (kB kI kJ kZ kC kS : ClassId) (sz : Nat) (m0 : Nat) (ra : Nat → Nat) (x0 : Nat → Int32) (tT : Nat → Int32) (nN : Int32) (sS : StT) (hX : fI lX11 hX11 x0) (hRr : RRd tT nN x0 sS) : Met l yX11_numberNow wsX11_numberNow rm_s11_numberNow_0_15 (va_Pc [.ref m0, .int 0, .int 15] (fun U => U.heap.size = sz ∧ va_P (dC, dI) vwCl [(m0, .inr (11, oX11 ra x0))] U.heap ∧ kE dC dI kB kI kJ kZ kC kS U ∧ va_D (fun _ => True) [(m0, .inr (11, oX11 ra x0))])) (va_Qi (fun (r : Int32) (_ : Unit) => iv 0 15 r ∧ (okT (numT tT 0 15 sS) → r = valS tT sS)) (fun _ t => ∃ (x0' : Nat → Int32), fI lX11 hX11 x0' ∧ ((x0' 2).toInt = (x0 2).toInt) ∧ (x0' 3 = x0 3) ∧ (RRd tT nN x0' (numT tT 0 15 sS)) ∧ (x0' 1 = x0 1) ∧ (x0' 10 = x0 10) ∧ va_P (dC, dI) vwCl [(m0, .inr (11, oX11 ra x0'))] t.heap ∧ va_D (va_A [(m0, .inr (11, oX11 ra x0))] sz) [(m0, .inr (11, oX11 ra x0'))]) (va_A [(m0, .inr (11, oX11 ra x0))] sz)) 0 0 (va_A [(m0, .inr (11, oX11 ra x0))] sz) := by
  refine Met.ofW (cc := cX11_numberNow) (maxL := 3) (ret := (some .int)) (by decide) rfl ?_
  intro p e s m args0 below meth c s₁ B hml hv
  obtain ⟨hargs, hsz, hP, hE, hD0⟩ := hv
  have hx := B.exec
  have hb := B.bytes
  have hr := B.returns
  have hts := atoms_spec (ws := wsX11_numberNow) B.pre
  have hown : s.vm.findClass RX11 = some m.cls := findClass_of_methodNamed B.named
  have hlocks := B.notSynchronized
  have hK := hE.1
  have hin11 : ∀ w ∈ wsX110, w ∈ wsX11_numberNow := fun _ h9 => List.mem_cons_of_mem _ (List.mem_append_right _ h9)
  have hw_0 := hts (.fieldLink RX11 184 "PathProberModel" "bad" "I") (List.mem_of_getElem? (i := 1) rfl)
  have hw_1 := hts (.fieldLink RX11 161 "PathProberModel" "token" "I") (List.mem_of_getElem? (i := 2) rfl)
  have hw_2 := hts (.fieldLink RX11 181 "PathProberModel" "stops" "I") (List.mem_of_getElem? (i := 3) rfl)
  have hw_3 := hts (.fieldLink RX11 158 "PathProberModel" "begins" "I") (List.mem_of_getElem? (i := 4) rfl)
  have hw_4 := hts (.fieldLink RX11 171 "PathProberModel" "number" "I") (List.mem_of_getElem? (i := 5) rfl)
  subst hsz
  have hD := hD0.self (sz := s.heap.size)
  generalize hAe : va_A [(m0, .inr (11, oX11 ra x0))] s.heap.size = A at hD ⊢
  have hA : ∀ q : Nat, s.heap.size ≤ q → A q := fun q h => by rw [← hAe]; exact Or.inr h
  have hS : va_S A s.heap s.heap [] := va_S.rf
  have hP : va_P (dC, dI) vwCl [(m0, .inr (11, oX11 ra x0))] s.heap := hP
  have hl := lv_entry ([.ref m0, .int 0, .int 15]) (n := 3) (Nat.le_of_ble_eq_true rfl)
  have hla : entryFrame m args0 3 = entryFrame m ([.ref m0, .int 0, .int 15] : List Value).toArray 3 := by rw [hargs]
  rw [hla, lg_entry_eq]
  generalize (lg_sl ([.ref m0, .int 0, .int 15]) ++ List.replicate (3 - (lg_sl ([.ref m0, .int 0, .int 15])).length) Slot.unset).toArray = ls at hl ⊢
  have hl : lv_has ls 3 [(0, .ref m0), (1, .int 0), (2, .int 15)] := hl
  refine lv_aload_n hx hb dX11_numberNow_0 rfl (lv_at hl 0 rfl) ?_
  refine va_get (D := (dC, dI)) (ci := 11) (v := .int (x0 8)) (C := RX11) (T := TX11) (N := 61) hx hb hts hin11 hown hK hP 0 rfl rfl 22 (Nat.le_of_ble_eq_true rfl) hw_0 (fun _ h9 => h9) rfl dX11_numberNow_1 ?_
  refine lv_if_eq (tgt := 9) hx hb dX11_numberNow_4 rfl (fun c1 => ?_) (fun c1 => ?_)
  · have b2 : iv 0 0 (x0 8) := iv_eqL c1 ivk_0
    refine lv_aload_n hx hb dX11_numberNow_9 rfl (lv_at hl 0 rfl) ?_
    refine va_get (D := (dC, dI)) (ci := 11) (v := .int (x0 4)) (C := RX11) (T := TX11) (N := 61) hx hb hts hin11 hown hK hP 0 rfl rfl 18 (Nat.le_of_ble_eq_true rfl) hw_1 (fun _ h9 => h9) rfl dX11_numberNow_10 ?_
    refine lv_iconst (v := 2) hx hb dX11_numberNow_13 ic_2 ?_
    refine lv_icmp_eq (tgt := 25) hx hb dX11_numberNow_14 rfl (fun c3 => ?_) (fun c3 => ?_)
    · have b4 : iv 2 2 (x0 4) := iv_eqL c3 ivk_2
      refine lv_aload_n hx hb dX11_numberNow_25 rfl (lv_at hl 0 rfl) ?_
      refine va_get (D := (dC, dI)) (ci := 11) (v := .int (x0 7)) (C := RX11) (T := TX11) (N := 61) hx hb hts hin11 hown hK hP 0 rfl rfl 21 (Nat.le_of_ble_eq_true rfl) hw_2 (fun _ h9 => h9) rfl dX11_numberNow_26 ?_
      refine lv_aload_n hx hb dX11_numberNow_29 rfl (lv_at hl 0 rfl) ?_
      refine va_get (D := (dC, dI)) (ci := 11) (v := .int (x0 6)) (C := RX11) (T := TX11) (N := 61) hx hb hts hin11 hown hK hP 0 rfl rfl 20 (Nat.le_of_ble_eq_true rfl) hw_3 (fun _ h9 => h9) rfl dX11_numberNow_30 ?_
      refine lv_isub hx hb dX11_numberNow_33 ?_
      have b5 : iv (-700) 700 ((x0 7) - (x0 6)) := iv_sub (hX 7 : iv 0 700 (x0 7)) (hX 6 : iv 0 700 (x0 6)) (by decide) (by decide) (by decide) (by decide)
      refine lv_iconst (v := 2) hx hb dX11_numberNow_34 ic_2 ?_
      refine lv_icmp_gt (tgt := 54) hx hb dX11_numberNow_35 rfl (fun c6 => ?_) (fun c6 => ?_)
      · have b7 : iv 3 700 ((x0 7) - (x0 6)) := iv_ltR c6 ivk_2 b5 (by decide) (by decide)
        refine lv_aload_n hx hb dX11_numberNow_54 rfl (lv_at hl 0 rfl) ?_
        refine lv_iconst (v := 2) hx hb dX11_numberNow_55 ic_2 ?_
        obtain ⟨hPc, hDc, hFc, hJn⟩ := cl_a (wc := [(m0, .inr (11, oX11 ra x0))]) (wr := []) hP hD hS hA [0] [] rfl rfl (by decide +kernel)
        refine va_callv (va_runV (As := [.int 2]) (rest := []) ⟨hx, hb, hml, hown, hts⟩ (s11_wrong l dC dI kB kI kJ kZ kC kS s.heap.size m0 ra x0 2 tT nN sS (hX) ((iv_w ivk_2 (by decide) (by decide))) (hRr)) (cwV 1 hts gX11_numberNow_X11_wrong rfl rfl rfl (by decide +kernel) ⟨Nat.le_of_ble_eq_true rfl, Nat.le_of_ble_eq_true rfl⟩) ⟨fun a U g mk q => by obtain ⟨q0, q1, qP, qE, qD⟩ := q; exact ⟨q0, q1, qP, kE_call qE, qD⟩, va_recv hK hP (ci := 11) (q0 := 0) rfl rfl, fun U hU hW => ⟨rfl, by rw [hU], by rw [hU]; exact hPc, kE_warm hW hE, hDc.weaken (fun _ _ _ _ => trivial)⟩⟩ rfl rfl hl.1 rfl (lv_room (Nat.le_of_ble_eq_true rfl)) dX11_numberNow_56 ⟨Nat.le_of_ble_eq_true rfl, Nat.le_of_ble_eq_true rfl⟩) hS (fun q _ h => hFc q h) hFc (fun u t H locs ht hvm w9 hB hz1 hk1 hS => ?_)
        obtain ⟨y10, hq11, hq12, hq13, hq14, hq15, hq16, hq17, hP1, hD1⟩ := hB
        try dsimp only at w9
        obtain ⟨hPa, hDa⟩ := hJn (w1 := [(m0, .inr (11, oX11 ra y10))]) hk1 ht hP1 hD1
        clear hP hD hPc hDc hFc hJn hP1 hD1 hk1
        have hP : va_P (dC, dI) vwCl [(m0, .inr (11, oX11 ra y10))] H := hPa
        have hD : va_D A [(m0, .inr (11, oX11 ra y10))] := hDa
        clear hPa hDa
        refine W.widen (k := 0) (n := 0) (Nat.le_of_ble_eq_true rfl) (Nat.le_of_ble_eq_true rfl) ?_
        refine lv_aload_n hx hb dX11_numberNow_59 rfl (lv_at hl 0 rfl) ?_
        refine va_get (D := (dC, dI)) (ci := 11) (v := .int (y10 8)) (C := RX11) (T := TX11) (N := 61) hx hb hts hin11 hown hK hP 0 rfl rfl 22 (Nat.le_of_ble_eq_true rfl) hw_0 (fun _ h9 => h9) rfl dX11_numberNow_60 ?_
        refine lv_if_ne (tgt := 73) hx hb dX11_numberNow_63 rfl (fun _ => ?_) (fun c9 => absurd c9 (iv_ne hq12 ivk_0 (by decide)))
        refine lv_iload_n hx hb dX11_numberNow_73 rfl (lv_at hl 1 rfl) ?_
        have hP9 := hP
        have hD9 := hD
        exact W.iret (v := 0) hx hb hr (fun t ht hW => ⟨⟨0, (), rfl, ⟨(iv_w ivk_0 (by decide) (by decide)), fun hk => (ok_fail ((nr_2 hRr c3 c6).symm ▸ hk)).elim⟩, y10, hq11, (show (y10 2).toInt = (x0 2).toInt from by omega), (show y10 3 = x0 3 from hq14), (show RRd tT nN y10 (numT tT 0 15 sS) from (nr_2 hRr c3 c6) ▸ hq15), (show y10 1 = x0 1 from hq16), (show y10 10 = x0 10 from hq17), by rw [ht]; exact hP9, hD9⟩, hS.F ht⟩) hS.2.2 dX11_numberNow_74
      · have b18 : iv (-700) 2 ((x0 7) - (x0 6)) := iv_leL (Int32.not_lt.mp c6) b5 ivk_2 (by decide) (by decide)
        refine lv_aload_n hx hb dX11_numberNow_38 rfl (lv_at hl 0 rfl) ?_
        refine va_get (D := (dC, dI)) (ci := 11) (v := .int (x0 5)) (C := RX11) (T := TX11) (N := 61) hx hb hts hin11 hown hK hP 0 rfl rfl 19 (Nat.le_of_ble_eq_true rfl) hw_4 (fun _ h9 => h9) rfl dX11_numberNow_39 ?_
        refine lv_iload_n hx hb dX11_numberNow_42 rfl (lv_at hl 1 rfl) ?_
        refine lv_icmp_lt (tgt := 54) hx hb dX11_numberNow_43 rfl (fun c19 => ?_) (fun c19 => ?_)
        · have b20 : iv (-2147483648) (-1) (x0 5) := iv_ltL c19 (hX 5 : iv (-2147483648) 2147483647 (x0 5)) ivk_0 (by decide) (by decide)
          refine lv_aload_n hx hb dX11_numberNow_54 rfl (lv_at hl 0 rfl) ?_
          refine lv_iconst (v := 2) hx hb dX11_numberNow_55 ic_2 ?_
          obtain ⟨hPc, hDc, hFc, hJn⟩ := cl_a (wc := [(m0, .inr (11, oX11 ra x0))]) (wr := []) hP hD hS hA [0] [] rfl rfl (by decide +kernel)
          refine va_callv (va_runV (As := [.int 2]) (rest := []) ⟨hx, hb, hml, hown, hts⟩ (s11_wrong l dC dI kB kI kJ kZ kC kS s.heap.size m0 ra x0 2 tT nN sS (hX) ((iv_w ivk_2 (by decide) (by decide))) (hRr)) (cwV 1 hts gX11_numberNow_X11_wrong rfl rfl rfl (by decide +kernel) ⟨Nat.le_of_ble_eq_true rfl, Nat.le_of_ble_eq_true rfl⟩) ⟨fun a U g mk q => by obtain ⟨q0, q1, qP, qE, qD⟩ := q; exact ⟨q0, q1, qP, kE_call qE, qD⟩, va_recv hK hP (ci := 11) (q0 := 0) rfl rfl, fun U hU hW => ⟨rfl, by rw [hU], by rw [hU]; exact hPc, kE_warm hW hE, hDc.weaken (fun _ _ _ _ => trivial)⟩⟩ rfl rfl hl.1 rfl (lv_room (Nat.le_of_ble_eq_true rfl)) dX11_numberNow_56 ⟨Nat.le_of_ble_eq_true rfl, Nat.le_of_ble_eq_true rfl⟩) hS (fun q _ h => hFc q h) hFc (fun u t H locs ht hvm w22 hB hz1 hk1 hS => ?_)
          obtain ⟨y23, hq24, hq25, hq26, hq27, hq28, hq29, hq30, hP1, hD1⟩ := hB
          try dsimp only at w22
          obtain ⟨hPa, hDa⟩ := hJn (w1 := [(m0, .inr (11, oX11 ra y23))]) hk1 ht hP1 hD1
          clear hP hD hPc hDc hFc hJn hP1 hD1 hk1
          have hP : va_P (dC, dI) vwCl [(m0, .inr (11, oX11 ra y23))] H := hPa
          have hD : va_D A [(m0, .inr (11, oX11 ra y23))] := hDa
          clear hPa hDa
          refine W.widen (k := 0) (n := 0) (Nat.le_of_ble_eq_true rfl) (Nat.le_of_ble_eq_true rfl) ?_
          refine lv_aload_n hx hb dX11_numberNow_59 rfl (lv_at hl 0 rfl) ?_
          refine va_get (D := (dC, dI)) (ci := 11) (v := .int (y23 8)) (C := RX11) (T := TX11) (N := 61) hx hb hts hin11 hown hK hP 0 rfl rfl 22 (Nat.le_of_ble_eq_true rfl) hw_0 (fun _ h9 => h9) rfl dX11_numberNow_60 ?_
          refine lv_if_ne (tgt := 73) hx hb dX11_numberNow_63 rfl (fun _ => ?_) (fun c9 => absurd c9 (iv_ne hq25 ivk_0 (by decide)))
          refine lv_iload_n hx hb dX11_numberNow_73 rfl (lv_at hl 1 rfl) ?_
          have hP9 := hP
          have hD9 := hD
          exact W.iret (v := 0) hx hb hr (fun t ht hW => ⟨⟨0, (), rfl, ⟨(iv_w ivk_0 (by decide) (by decide)), fun hk => (ok_fail ((nr_3 hRr c3 (Int32.not_lt.mp c6) (Or.inl c19)).symm ▸ hk)).elim⟩, y23, hq24, (show (y23 2).toInt = (x0 2).toInt from by omega), (show y23 3 = x0 3 from hq27), (show RRd tT nN y23 (numT tT 0 15 sS) from (nr_3 hRr c3 (Int32.not_lt.mp c6) (Or.inl c19)) ▸ hq28), (show y23 1 = x0 1 from hq29), (show y23 10 = x0 10 from hq30), by rw [ht]; exact hP9, hD9⟩, hS.F ht⟩) hS.2.2 dX11_numberNow_74
        · have b31 : iv 0 2147483647 (x0 5) := iv_leR (Int32.not_lt.mp c19) ivk_0 (hX 5 : iv (-2147483648) 2147483647 (x0 5)) (by decide) (by decide)
          refine lv_aload_n hx hb dX11_numberNow_46 rfl (lv_at hl 0 rfl) ?_
          refine va_get (D := (dC, dI)) (ci := 11) (v := .int (x0 5)) (C := RX11) (T := TX11) (N := 61) hx hb hts hin11 hown hK hP 0 rfl rfl 19 (Nat.le_of_ble_eq_true rfl) hw_4 (fun _ h9 => h9) rfl dX11_numberNow_47 ?_
          refine lv_iload_n hx hb dX11_numberNow_50 rfl (lv_at hl 2 rfl) ?_
          refine lv_icmp_le (tgt := 59) hx hb dX11_numberNow_51 rfl (fun c32 => ?_) (fun c32 => ?_)
          · have b33 : iv 0 15 (x0 5) := iv_leL c32 b31 ivk_15 (by decide) (by decide)
            refine lv_aload_n hx hb dX11_numberNow_59 rfl (lv_at hl 0 rfl) ?_
            refine va_get (D := (dC, dI)) (ci := 11) (v := .int (x0 8)) (C := RX11) (T := TX11) (N := 61) hx hb hts hin11 hown hK hP 0 rfl rfl 22 (Nat.le_of_ble_eq_true rfl) hw_0 (fun _ h9 => h9) rfl dX11_numberNow_60 ?_
            refine lv_if_ne (tgt := 73) hx hb dX11_numberNow_63 rfl (fun c9 => absurd (c1) c9) (fun _ => ?_)
            refine lv_aload_n hx hb dX11_numberNow_66 rfl (lv_at hl 0 rfl) ?_
            refine va_get (D := (dC, dI)) (ci := 11) (v := .int (x0 5)) (C := RX11) (T := TX11) (N := 61) hx hb hts hin11 hown hK hP 0 rfl rfl 19 (Nat.le_of_ble_eq_true rfl) hw_4 (fun _ h9 => h9) rfl dX11_numberNow_67 ?_
            refine lv_goto (tgt := 74) hx hb dX11_numberNow_70 rfl ?_
            have hP9 := hP
            have hD9 := hD
            exact W.iret (v := x0 5) hx hb hr (fun t ht hW => ⟨⟨x0 5, (), rfl, ⟨b33, fun _ => (nr_ok hRr c1 c3 (Int32.not_lt.mp c6) (Int32.not_lt.mp c19) c32).2⟩, x0, hX, (show (x0 2).toInt = (x0 2).toInt from by omega), (show x0 3 = x0 3 from rfl), (show RRd tT nN x0 (numT tT 0 15 sS) from (nr_ok hRr c1 c3 (Int32.not_lt.mp c6) (Int32.not_lt.mp c19) c32).1 ▸ hRr), (show x0 1 = x0 1 from rfl), (show x0 10 = x0 10 from rfl), by rw [ht]; exact hP9, hD9⟩, hS.F ht⟩) hS.2.2 dX11_numberNow_74
          · have b34 : iv 16 2147483647 (x0 5) := iv_ltR (Int32.not_le.mp c32) ivk_15 b31 (by decide) (by decide)
            refine lv_aload_n hx hb dX11_numberNow_54 rfl (lv_at hl 0 rfl) ?_
            refine lv_iconst (v := 2) hx hb dX11_numberNow_55 ic_2 ?_
            obtain ⟨hPc, hDc, hFc, hJn⟩ := cl_a (wc := [(m0, .inr (11, oX11 ra x0))]) (wr := []) hP hD hS hA [0] [] rfl rfl (by decide +kernel)
            refine va_callv (va_runV (As := [.int 2]) (rest := []) ⟨hx, hb, hml, hown, hts⟩ (s11_wrong l dC dI kB kI kJ kZ kC kS s.heap.size m0 ra x0 2 tT nN sS (hX) ((iv_w ivk_2 (by decide) (by decide))) (hRr)) (cwV 1 hts gX11_numberNow_X11_wrong rfl rfl rfl (by decide +kernel) ⟨Nat.le_of_ble_eq_true rfl, Nat.le_of_ble_eq_true rfl⟩) ⟨fun a U g mk q => by obtain ⟨q0, q1, qP, qE, qD⟩ := q; exact ⟨q0, q1, qP, kE_call qE, qD⟩, va_recv hK hP (ci := 11) (q0 := 0) rfl rfl, fun U hU hW => ⟨rfl, by rw [hU], by rw [hU]; exact hPc, kE_warm hW hE, hDc.weaken (fun _ _ _ _ => trivial)⟩⟩ rfl rfl hl.1 rfl (lv_room (Nat.le_of_ble_eq_true rfl)) dX11_numberNow_56 ⟨Nat.le_of_ble_eq_true rfl, Nat.le_of_ble_eq_true rfl⟩) hS (fun q _ h => hFc q h) hFc (fun u t H locs ht hvm w36 hB hz1 hk1 hS => ?_)
            obtain ⟨y37, hq38, hq39, hq40, hq41, hq42, hq43, hq44, hP1, hD1⟩ := hB
            try dsimp only at w36
            obtain ⟨hPa, hDa⟩ := hJn (w1 := [(m0, .inr (11, oX11 ra y37))]) hk1 ht hP1 hD1
            clear hP hD hPc hDc hFc hJn hP1 hD1 hk1
            have hP : va_P (dC, dI) vwCl [(m0, .inr (11, oX11 ra y37))] H := hPa
            have hD : va_D A [(m0, .inr (11, oX11 ra y37))] := hDa
            clear hPa hDa
            refine W.widen (k := 0) (n := 0) (Nat.le_of_ble_eq_true rfl) (Nat.le_of_ble_eq_true rfl) ?_
            refine lv_aload_n hx hb dX11_numberNow_59 rfl (lv_at hl 0 rfl) ?_
            refine va_get (D := (dC, dI)) (ci := 11) (v := .int (y37 8)) (C := RX11) (T := TX11) (N := 61) hx hb hts hin11 hown hK hP 0 rfl rfl 22 (Nat.le_of_ble_eq_true rfl) hw_0 (fun _ h9 => h9) rfl dX11_numberNow_60 ?_
            refine lv_if_ne (tgt := 73) hx hb dX11_numberNow_63 rfl (fun _ => ?_) (fun c9 => absurd c9 (iv_ne hq39 ivk_0 (by decide)))
            refine lv_iload_n hx hb dX11_numberNow_73 rfl (lv_at hl 1 rfl) ?_
            have hP9 := hP
            have hD9 := hD
            exact W.iret (v := 0) hx hb hr (fun t ht hW => ⟨⟨0, (), rfl, ⟨(iv_w ivk_0 (by decide) (by decide)), fun hk => (ok_fail ((nr_3 hRr c3 (Int32.not_lt.mp c6) (Or.inr (Int32.not_le.mp c32))).symm ▸ hk)).elim⟩, y37, hq38, (show (y37 2).toInt = (x0 2).toInt from by omega), (show y37 3 = x0 3 from hq41), (show RRd tT nN y37 (numT tT 0 15 sS) from (nr_3 hRr c3 (Int32.not_lt.mp c6) (Or.inr (Int32.not_le.mp c32))) ▸ hq42), (show y37 1 = x0 1 from hq43), (show y37 10 = x0 10 from hq44), by rw [ht]; exact hP9, hD9⟩, hS.F ht⟩) hS.2.2 dX11_numberNow_74
    · refine lv_aload_n hx hb dX11_numberNow_17 rfl (lv_at hl 0 rfl) ?_
      refine lv_iconst (v := 1) hx hb dX11_numberNow_18 ic_1 ?_
      obtain ⟨hPc, hDc, hFc, hJn⟩ := cl_a (wc := [(m0, .inr (11, oX11 ra x0))]) (wr := []) hP hD hS hA [0] [] rfl rfl (by decide +kernel)
      refine va_callv (va_runV (As := [.int 1]) (rest := []) ⟨hx, hb, hml, hown, hts⟩ (s11_wrong l dC dI kB kI kJ kZ kC kS s.heap.size m0 ra x0 1 tT nN sS (hX) ((iv_w ivk_1 (by decide) (by decide))) (hRr)) (cwV 1 hts gX11_numberNow_X11_wrong rfl rfl rfl (by decide +kernel) ⟨Nat.le_of_ble_eq_true rfl, Nat.le_of_ble_eq_true rfl⟩) ⟨fun a U g mk q => by obtain ⟨q0, q1, qP, qE, qD⟩ := q; exact ⟨q0, q1, qP, kE_call qE, qD⟩, va_recv hK hP (ci := 11) (q0 := 0) rfl rfl, fun U hU hW => ⟨rfl, by rw [hU], by rw [hU]; exact hPc, kE_warm hW hE, hDc.weaken (fun _ _ _ _ => trivial)⟩⟩ rfl rfl hl.1 rfl (lv_room (Nat.le_of_ble_eq_true rfl)) dX11_numberNow_19 ⟨Nat.le_of_ble_eq_true rfl, Nat.le_of_ble_eq_true rfl⟩) hS (fun q _ h => hFc q h) hFc (fun u t H locs ht hvm w46 hB hz1 hk1 hS => ?_)
      obtain ⟨y47, hq48, hq49, hq50, hq51, hq52, hq53, hq54, hP1, hD1⟩ := hB
      try dsimp only at w46
      obtain ⟨hPa, hDa⟩ := hJn (w1 := [(m0, .inr (11, oX11 ra y47))]) hk1 ht hP1 hD1
      clear hP hD hPc hDc hFc hJn hP1 hD1 hk1
      have hP : va_P (dC, dI) vwCl [(m0, .inr (11, oX11 ra y47))] H := hPa
      have hD : va_D A [(m0, .inr (11, oX11 ra y47))] := hDa
      clear hPa hDa
      refine W.widen (k := 0) (n := 0) (Nat.le_of_ble_eq_true rfl) (Nat.le_of_ble_eq_true rfl) ?_
      refine lv_goto (tgt := 59) hx hb dX11_numberNow_22 rfl ?_
      refine lv_aload_n hx hb dX11_numberNow_59 rfl (lv_at hl 0 rfl) ?_
      refine va_get (D := (dC, dI)) (ci := 11) (v := .int (y47 8)) (C := RX11) (T := TX11) (N := 61) hx hb hts hin11 hown hK hP 0 rfl rfl 22 (Nat.le_of_ble_eq_true rfl) hw_0 (fun _ h9 => h9) rfl dX11_numberNow_60 ?_
      refine lv_if_ne (tgt := 73) hx hb dX11_numberNow_63 rfl (fun _ => ?_) (fun c9 => absurd c9 (iv_ne hq49 ivk_0 (by decide)))
      refine lv_iload_n hx hb dX11_numberNow_73 rfl (lv_at hl 1 rfl) ?_
      have hP9 := hP
      have hD9 := hD
      exact W.iret (v := 0) hx hb hr (fun t ht hW => ⟨⟨0, (), rfl, ⟨(iv_w ivk_0 (by decide) (by decide)), fun hk => (ok_fail ((nr_1 hRr c3).symm ▸ hk)).elim⟩, y47, hq48, (show (y47 2).toInt = (x0 2).toInt from by omega), (show y47 3 = x0 3 from hq51), (show RRd tT nN y47 (numT tT 0 15 sS) from (nr_1 hRr c3) ▸ hq52), (show y47 1 = x0 1 from hq53), (show y47 10 = x0 10 from hq54), by rw [ht]; exact hP9, hD9⟩, hS.F ht⟩) hS.2.2 dX11_numberNow_74
  · have b55 : iv 1 5 (x0 8) := iv_neLo c1 (hX 8 : iv 0 5 (x0 8)) ivk_0 (by decide) (by decide)
    refine lv_iload_n hx hb dX11_numberNow_7 rfl (lv_at hl 1 rfl) ?_
    have hP9 := hP
    have hD9 := hD
    exact W.iret (v := 0) hx hb hr (fun t ht hW => ⟨⟨0, (), rfl, ⟨(iv_w ivk_0 (by decide) (by decide)), fun hk => absurd (ok_num hk) (rr_no hRr c1)⟩, x0, hX, (show (x0 2).toInt = (x0 2).toInt from by omega), (show x0 3 = x0 3 from rfl), (show RRd tT nN x0 (numT tT 0 15 sS) from nr_b hRr c1 ▸ hRr), (show x0 1 = x0 1 from rfl), (show x0 10 = x0 10 from rfl), by rw [ht]; exact hP9, hD9⟩, hS.F ht⟩) hS.2.2 dX11_numberNow_8
def rm_s11_numberNow_1_60 : Room := { frames := 1, cells := 0, slots := 0, locals := 21 }
set_option maxHeartbeats 4000000 in
set_option maxRecDepth 100000 in
theorem s11_numberNow_1_60 (l : Launch) (dC : Nat → ClassId) (dI : Nat → Nat → Nat) (kB kI kJ kZ kC kS : ClassId) (sz : Nat) (m0 : Nat) (ra : Nat → Nat) (x0 : Nat → Int32) (tT : Nat → Int32) (nN : Int32) (sS : StT) (hX : fI lX11 hX11 x0) (hRr : RRd tT nN x0 sS) : Met l yX11_numberNow wsX11_numberNow rm_s11_numberNow_1_60 (va_Pc [.ref m0, .int 1, .int 60] (fun U => U.heap.size = sz ∧ va_P (dC, dI) vwCl [(m0, .inr (11, oX11 ra x0))] U.heap ∧ kE dC dI kB kI kJ kZ kC kS U ∧ va_D (fun _ => True) [(m0, .inr (11, oX11 ra x0))])) (va_Qi (fun (r : Int32) (_ : Unit) => iv 1 60 r ∧ (okT (numT tT 1 60 sS) → r = valS tT sS)) (fun _ t => ∃ (x0' : Nat → Int32), fI lX11 hX11 x0' ∧ ((x0' 2).toInt = (x0 2).toInt) ∧ (x0' 3 = x0 3) ∧ (RRd tT nN x0' (numT tT 1 60 sS)) ∧ (x0' 1 = x0 1) ∧ (x0' 10 = x0 10) ∧ va_P (dC, dI) vwCl [(m0, .inr (11, oX11 ra x0'))] t.heap ∧ va_D (va_A [(m0, .inr (11, oX11 ra x0))] sz) [(m0, .inr (11, oX11 ra x0'))]) (va_A [(m0, .inr (11, oX11 ra x0))] sz)) 0 0 (va_A [(m0, .inr (11, oX11 ra x0))] sz) := by
  refine Met.ofW (cc := cX11_numberNow) (maxL := 3) (ret := (some .int)) (by decide) rfl ?_
  intro p e s m args0 below meth c s₁ B hml hv
  obtain ⟨hargs, hsz, hP, hE, hD0⟩ := hv
  have hx := B.exec
  have hb := B.bytes
  have hr := B.returns
  have hts := atoms_spec (ws := wsX11_numberNow) B.pre
  have hown : s.vm.findClass RX11 = some m.cls := findClass_of_methodNamed B.named
  have hlocks := B.notSynchronized
  have hK := hE.1
  have hin11 : ∀ w ∈ wsX110, w ∈ wsX11_numberNow := fun _ h9 => List.mem_cons_of_mem _ (List.mem_append_right _ h9)
  have hw_0 := hts (.fieldLink RX11 184 "PathProberModel" "bad" "I") (List.mem_of_getElem? (i := 1) rfl)
  have hw_1 := hts (.fieldLink RX11 161 "PathProberModel" "token" "I") (List.mem_of_getElem? (i := 2) rfl)
  have hw_2 := hts (.fieldLink RX11 181 "PathProberModel" "stops" "I") (List.mem_of_getElem? (i := 3) rfl)
  have hw_3 := hts (.fieldLink RX11 158 "PathProberModel" "begins" "I") (List.mem_of_getElem? (i := 4) rfl)
  have hw_4 := hts (.fieldLink RX11 171 "PathProberModel" "number" "I") (List.mem_of_getElem? (i := 5) rfl)
  subst hsz
  have hD := hD0.self (sz := s.heap.size)
  generalize hAe : va_A [(m0, .inr (11, oX11 ra x0))] s.heap.size = A at hD ⊢
  have hA : ∀ q : Nat, s.heap.size ≤ q → A q := fun q h => by rw [← hAe]; exact Or.inr h
  have hS : va_S A s.heap s.heap [] := va_S.rf
  have hP : va_P (dC, dI) vwCl [(m0, .inr (11, oX11 ra x0))] s.heap := hP
  have hl := lv_entry ([.ref m0, .int 1, .int 60]) (n := 3) (Nat.le_of_ble_eq_true rfl)
  have hla : entryFrame m args0 3 = entryFrame m ([.ref m0, .int 1, .int 60] : List Value).toArray 3 := by rw [hargs]
  rw [hla, lg_entry_eq]
  generalize (lg_sl ([.ref m0, .int 1, .int 60]) ++ List.replicate (3 - (lg_sl ([.ref m0, .int 1, .int 60])).length) Slot.unset).toArray = ls at hl ⊢
  have hl : lv_has ls 3 [(0, .ref m0), (1, .int 1), (2, .int 60)] := hl
  refine lv_aload_n hx hb dX11_numberNow_0 rfl (lv_at hl 0 rfl) ?_
  refine va_get (D := (dC, dI)) (ci := 11) (v := .int (x0 8)) (C := RX11) (T := TX11) (N := 61) hx hb hts hin11 hown hK hP 0 rfl rfl 22 (Nat.le_of_ble_eq_true rfl) hw_0 (fun _ h9 => h9) rfl dX11_numberNow_1 ?_
  refine lv_if_eq (tgt := 9) hx hb dX11_numberNow_4 rfl (fun c1 => ?_) (fun c1 => ?_)
  · have b2 : iv 0 0 (x0 8) := iv_eqL c1 ivk_0
    refine lv_aload_n hx hb dX11_numberNow_9 rfl (lv_at hl 0 rfl) ?_
    refine va_get (D := (dC, dI)) (ci := 11) (v := .int (x0 4)) (C := RX11) (T := TX11) (N := 61) hx hb hts hin11 hown hK hP 0 rfl rfl 18 (Nat.le_of_ble_eq_true rfl) hw_1 (fun _ h9 => h9) rfl dX11_numberNow_10 ?_
    refine lv_iconst (v := 2) hx hb dX11_numberNow_13 ic_2 ?_
    refine lv_icmp_eq (tgt := 25) hx hb dX11_numberNow_14 rfl (fun c3 => ?_) (fun c3 => ?_)
    · have b4 : iv 2 2 (x0 4) := iv_eqL c3 ivk_2
      refine lv_aload_n hx hb dX11_numberNow_25 rfl (lv_at hl 0 rfl) ?_
      refine va_get (D := (dC, dI)) (ci := 11) (v := .int (x0 7)) (C := RX11) (T := TX11) (N := 61) hx hb hts hin11 hown hK hP 0 rfl rfl 21 (Nat.le_of_ble_eq_true rfl) hw_2 (fun _ h9 => h9) rfl dX11_numberNow_26 ?_
      refine lv_aload_n hx hb dX11_numberNow_29 rfl (lv_at hl 0 rfl) ?_
      refine va_get (D := (dC, dI)) (ci := 11) (v := .int (x0 6)) (C := RX11) (T := TX11) (N := 61) hx hb hts hin11 hown hK hP 0 rfl rfl 20 (Nat.le_of_ble_eq_true rfl) hw_3 (fun _ h9 => h9) rfl dX11_numberNow_30 ?_
      refine lv_isub hx hb dX11_numberNow_33 ?_
      have b5 : iv (-700) 700 ((x0 7) - (x0 6)) := iv_sub (hX 7 : iv 0 700 (x0 7)) (hX 6 : iv 0 700 (x0 6)) (by decide) (by decide) (by decide) (by decide)
      refine lv_iconst (v := 2) hx hb dX11_numberNow_34 ic_2 ?_
      refine lv_icmp_gt (tgt := 54) hx hb dX11_numberNow_35 rfl (fun c6 => ?_) (fun c6 => ?_)
      · have b7 : iv 3 700 ((x0 7) - (x0 6)) := iv_ltR c6 ivk_2 b5 (by decide) (by decide)
        refine lv_aload_n hx hb dX11_numberNow_54 rfl (lv_at hl 0 rfl) ?_
        refine lv_iconst (v := 2) hx hb dX11_numberNow_55 ic_2 ?_
        obtain ⟨hPc, hDc, hFc, hJn⟩ := cl_a (wc := [(m0, .inr (11, oX11 ra x0))]) (wr := []) hP hD hS hA [0] [] rfl rfl (by decide +kernel)
        refine va_callv (va_runV (As := [.int 2]) (rest := []) ⟨hx, hb, hml, hown, hts⟩ (s11_wrong l dC dI kB kI kJ kZ kC kS s.heap.size m0 ra x0 2 tT nN sS (hX) ((iv_w ivk_2 (by decide) (by decide))) (hRr)) (cwV 1 hts gX11_numberNow_X11_wrong rfl rfl rfl (by decide +kernel) ⟨Nat.le_of_ble_eq_true rfl, Nat.le_of_ble_eq_true rfl⟩) ⟨fun a U g mk q => by obtain ⟨q0, q1, qP, qE, qD⟩ := q; exact ⟨q0, q1, qP, kE_call qE, qD⟩, va_recv hK hP (ci := 11) (q0 := 0) rfl rfl, fun U hU hW => ⟨rfl, by rw [hU], by rw [hU]; exact hPc, kE_warm hW hE, hDc.weaken (fun _ _ _ _ => trivial)⟩⟩ rfl rfl hl.1 rfl (lv_room (Nat.le_of_ble_eq_true rfl)) dX11_numberNow_56 ⟨Nat.le_of_ble_eq_true rfl, Nat.le_of_ble_eq_true rfl⟩) hS (fun q _ h => hFc q h) hFc (fun u t H locs ht hvm w9 hB hz1 hk1 hS => ?_)
        obtain ⟨y10, hq11, hq12, hq13, hq14, hq15, hq16, hq17, hP1, hD1⟩ := hB
        try dsimp only at w9
        obtain ⟨hPa, hDa⟩ := hJn (w1 := [(m0, .inr (11, oX11 ra y10))]) hk1 ht hP1 hD1
        clear hP hD hPc hDc hFc hJn hP1 hD1 hk1
        have hP : va_P (dC, dI) vwCl [(m0, .inr (11, oX11 ra y10))] H := hPa
        have hD : va_D A [(m0, .inr (11, oX11 ra y10))] := hDa
        clear hPa hDa
        refine W.widen (k := 0) (n := 0) (Nat.le_of_ble_eq_true rfl) (Nat.le_of_ble_eq_true rfl) ?_
        refine lv_aload_n hx hb dX11_numberNow_59 rfl (lv_at hl 0 rfl) ?_
        refine va_get (D := (dC, dI)) (ci := 11) (v := .int (y10 8)) (C := RX11) (T := TX11) (N := 61) hx hb hts hin11 hown hK hP 0 rfl rfl 22 (Nat.le_of_ble_eq_true rfl) hw_0 (fun _ h9 => h9) rfl dX11_numberNow_60 ?_
        refine lv_if_ne (tgt := 73) hx hb dX11_numberNow_63 rfl (fun _ => ?_) (fun c9 => absurd c9 (iv_ne hq12 ivk_0 (by decide)))
        refine lv_iload_n hx hb dX11_numberNow_73 rfl (lv_at hl 1 rfl) ?_
        have hP9 := hP
        have hD9 := hD
        exact W.iret (v := 1) hx hb hr (fun t ht hW => ⟨⟨1, (), rfl, ⟨(iv_w ivk_1 (by decide) (by decide)), fun hk => (ok_fail ((nr_2 hRr c3 c6).symm ▸ hk)).elim⟩, y10, hq11, (show (y10 2).toInt = (x0 2).toInt from by omega), (show y10 3 = x0 3 from hq14), (show RRd tT nN y10 (numT tT 1 60 sS) from (nr_2 hRr c3 c6) ▸ hq15), (show y10 1 = x0 1 from hq16), (show y10 10 = x0 10 from hq17), by rw [ht]; exact hP9, hD9⟩, hS.F ht⟩) hS.2.2 dX11_numberNow_74
      · have b18 : iv (-700) 2 ((x0 7) - (x0 6)) := iv_leL (Int32.not_lt.mp c6) b5 ivk_2 (by decide) (by decide)
        refine lv_aload_n hx hb dX11_numberNow_38 rfl (lv_at hl 0 rfl) ?_
        refine va_get (D := (dC, dI)) (ci := 11) (v := .int (x0 5)) (C := RX11) (T := TX11) (N := 61) hx hb hts hin11 hown hK hP 0 rfl rfl 19 (Nat.le_of_ble_eq_true rfl) hw_4 (fun _ h9 => h9) rfl dX11_numberNow_39 ?_
        refine lv_iload_n hx hb dX11_numberNow_42 rfl (lv_at hl 1 rfl) ?_
        refine lv_icmp_lt (tgt := 54) hx hb dX11_numberNow_43 rfl (fun c19 => ?_) (fun c19 => ?_)
        · have b20 : iv (-2147483648) 0 (x0 5) := iv_ltL c19 (hX 5 : iv (-2147483648) 2147483647 (x0 5)) ivk_1 (by decide) (by decide)
          refine lv_aload_n hx hb dX11_numberNow_54 rfl (lv_at hl 0 rfl) ?_
          refine lv_iconst (v := 2) hx hb dX11_numberNow_55 ic_2 ?_
          obtain ⟨hPc, hDc, hFc, hJn⟩ := cl_a (wc := [(m0, .inr (11, oX11 ra x0))]) (wr := []) hP hD hS hA [0] [] rfl rfl (by decide +kernel)
          refine va_callv (va_runV (As := [.int 2]) (rest := []) ⟨hx, hb, hml, hown, hts⟩ (s11_wrong l dC dI kB kI kJ kZ kC kS s.heap.size m0 ra x0 2 tT nN sS (hX) ((iv_w ivk_2 (by decide) (by decide))) (hRr)) (cwV 1 hts gX11_numberNow_X11_wrong rfl rfl rfl (by decide +kernel) ⟨Nat.le_of_ble_eq_true rfl, Nat.le_of_ble_eq_true rfl⟩) ⟨fun a U g mk q => by obtain ⟨q0, q1, qP, qE, qD⟩ := q; exact ⟨q0, q1, qP, kE_call qE, qD⟩, va_recv hK hP (ci := 11) (q0 := 0) rfl rfl, fun U hU hW => ⟨rfl, by rw [hU], by rw [hU]; exact hPc, kE_warm hW hE, hDc.weaken (fun _ _ _ _ => trivial)⟩⟩ rfl rfl hl.1 rfl (lv_room (Nat.le_of_ble_eq_true rfl)) dX11_numberNow_56 ⟨Nat.le_of_ble_eq_true rfl, Nat.le_of_ble_eq_true rfl⟩) hS (fun q _ h => hFc q h) hFc (fun u t H locs ht hvm w22 hB hz1 hk1 hS => ?_)
          obtain ⟨y23, hq24, hq25, hq26, hq27, hq28, hq29, hq30, hP1, hD1⟩ := hB
          try dsimp only at w22
          obtain ⟨hPa, hDa⟩ := hJn (w1 := [(m0, .inr (11, oX11 ra y23))]) hk1 ht hP1 hD1
          clear hP hD hPc hDc hFc hJn hP1 hD1 hk1
          have hP : va_P (dC, dI) vwCl [(m0, .inr (11, oX11 ra y23))] H := hPa
          have hD : va_D A [(m0, .inr (11, oX11 ra y23))] := hDa
          clear hPa hDa
          refine W.widen (k := 0) (n := 0) (Nat.le_of_ble_eq_true rfl) (Nat.le_of_ble_eq_true rfl) ?_
          refine lv_aload_n hx hb dX11_numberNow_59 rfl (lv_at hl 0 rfl) ?_
          refine va_get (D := (dC, dI)) (ci := 11) (v := .int (y23 8)) (C := RX11) (T := TX11) (N := 61) hx hb hts hin11 hown hK hP 0 rfl rfl 22 (Nat.le_of_ble_eq_true rfl) hw_0 (fun _ h9 => h9) rfl dX11_numberNow_60 ?_
          refine lv_if_ne (tgt := 73) hx hb dX11_numberNow_63 rfl (fun _ => ?_) (fun c9 => absurd c9 (iv_ne hq25 ivk_0 (by decide)))
          refine lv_iload_n hx hb dX11_numberNow_73 rfl (lv_at hl 1 rfl) ?_
          have hP9 := hP
          have hD9 := hD
          exact W.iret (v := 1) hx hb hr (fun t ht hW => ⟨⟨1, (), rfl, ⟨(iv_w ivk_1 (by decide) (by decide)), fun hk => (ok_fail ((nr_3 hRr c3 (Int32.not_lt.mp c6) (Or.inl c19)).symm ▸ hk)).elim⟩, y23, hq24, (show (y23 2).toInt = (x0 2).toInt from by omega), (show y23 3 = x0 3 from hq27), (show RRd tT nN y23 (numT tT 1 60 sS) from (nr_3 hRr c3 (Int32.not_lt.mp c6) (Or.inl c19)) ▸ hq28), (show y23 1 = x0 1 from hq29), (show y23 10 = x0 10 from hq30), by rw [ht]; exact hP9, hD9⟩, hS.F ht⟩) hS.2.2 dX11_numberNow_74
        · have b31 : iv 1 2147483647 (x0 5) := iv_leR (Int32.not_lt.mp c19) ivk_1 (hX 5 : iv (-2147483648) 2147483647 (x0 5)) (by decide) (by decide)
          refine lv_aload_n hx hb dX11_numberNow_46 rfl (lv_at hl 0 rfl) ?_
          refine va_get (D := (dC, dI)) (ci := 11) (v := .int (x0 5)) (C := RX11) (T := TX11) (N := 61) hx hb hts hin11 hown hK hP 0 rfl rfl 19 (Nat.le_of_ble_eq_true rfl) hw_4 (fun _ h9 => h9) rfl dX11_numberNow_47 ?_
          refine lv_iload_n hx hb dX11_numberNow_50 rfl (lv_at hl 2 rfl) ?_
          refine lv_icmp_le (tgt := 59) hx hb dX11_numberNow_51 rfl (fun c32 => ?_) (fun c32 => ?_)
          · have b33 : iv 1 60 (x0 5) := iv_leL c32 b31 ivk_60 (by decide) (by decide)
            refine lv_aload_n hx hb dX11_numberNow_59 rfl (lv_at hl 0 rfl) ?_
            refine va_get (D := (dC, dI)) (ci := 11) (v := .int (x0 8)) (C := RX11) (T := TX11) (N := 61) hx hb hts hin11 hown hK hP 0 rfl rfl 22 (Nat.le_of_ble_eq_true rfl) hw_0 (fun _ h9 => h9) rfl dX11_numberNow_60 ?_
            refine lv_if_ne (tgt := 73) hx hb dX11_numberNow_63 rfl (fun c9 => absurd (c1) c9) (fun _ => ?_)
            refine lv_aload_n hx hb dX11_numberNow_66 rfl (lv_at hl 0 rfl) ?_
            refine va_get (D := (dC, dI)) (ci := 11) (v := .int (x0 5)) (C := RX11) (T := TX11) (N := 61) hx hb hts hin11 hown hK hP 0 rfl rfl 19 (Nat.le_of_ble_eq_true rfl) hw_4 (fun _ h9 => h9) rfl dX11_numberNow_67 ?_
            refine lv_goto (tgt := 74) hx hb dX11_numberNow_70 rfl ?_
            have hP9 := hP
            have hD9 := hD
            exact W.iret (v := x0 5) hx hb hr (fun t ht hW => ⟨⟨x0 5, (), rfl, ⟨b33, fun _ => (nr_ok hRr c1 c3 (Int32.not_lt.mp c6) (Int32.not_lt.mp c19) c32).2⟩, x0, hX, (show (x0 2).toInt = (x0 2).toInt from by omega), (show x0 3 = x0 3 from rfl), (show RRd tT nN x0 (numT tT 1 60 sS) from (nr_ok hRr c1 c3 (Int32.not_lt.mp c6) (Int32.not_lt.mp c19) c32).1 ▸ hRr), (show x0 1 = x0 1 from rfl), (show x0 10 = x0 10 from rfl), by rw [ht]; exact hP9, hD9⟩, hS.F ht⟩) hS.2.2 dX11_numberNow_74
          · have b34 : iv 61 2147483647 (x0 5) := iv_ltR (Int32.not_le.mp c32) ivk_60 b31 (by decide) (by decide)
            refine lv_aload_n hx hb dX11_numberNow_54 rfl (lv_at hl 0 rfl) ?_
            refine lv_iconst (v := 2) hx hb dX11_numberNow_55 ic_2 ?_
            obtain ⟨hPc, hDc, hFc, hJn⟩ := cl_a (wc := [(m0, .inr (11, oX11 ra x0))]) (wr := []) hP hD hS hA [0] [] rfl rfl (by decide +kernel)
            refine va_callv (va_runV (As := [.int 2]) (rest := []) ⟨hx, hb, hml, hown, hts⟩ (s11_wrong l dC dI kB kI kJ kZ kC kS s.heap.size m0 ra x0 2 tT nN sS (hX) ((iv_w ivk_2 (by decide) (by decide))) (hRr)) (cwV 1 hts gX11_numberNow_X11_wrong rfl rfl rfl (by decide +kernel) ⟨Nat.le_of_ble_eq_true rfl, Nat.le_of_ble_eq_true rfl⟩) ⟨fun a U g mk q => by obtain ⟨q0, q1, qP, qE, qD⟩ := q; exact ⟨q0, q1, qP, kE_call qE, qD⟩, va_recv hK hP (ci := 11) (q0 := 0) rfl rfl, fun U hU hW => ⟨rfl, by rw [hU], by rw [hU]; exact hPc, kE_warm hW hE, hDc.weaken (fun _ _ _ _ => trivial)⟩⟩ rfl rfl hl.1 rfl (lv_room (Nat.le_of_ble_eq_true rfl)) dX11_numberNow_56 ⟨Nat.le_of_ble_eq_true rfl, Nat.le_of_ble_eq_true rfl⟩) hS (fun q _ h => hFc q h) hFc (fun u t H locs ht hvm w36 hB hz1 hk1 hS => ?_)
            obtain ⟨y37, hq38, hq39, hq40, hq41, hq42, hq43, hq44, hP1, hD1⟩ := hB
            try dsimp only at w36
            obtain ⟨hPa, hDa⟩ := hJn (w1 := [(m0, .inr (11, oX11 ra y37))]) hk1 ht hP1 hD1
            clear hP hD hPc hDc hFc hJn hP1 hD1 hk1
            have hP : va_P (dC, dI) vwCl [(m0, .inr (11, oX11 ra y37))] H := hPa
            have hD : va_D A [(m0, .inr (11, oX11 ra y37))] := hDa
            clear hPa hDa
            refine W.widen (k := 0) (n := 0) (Nat.le_of_ble_eq_true rfl) (Nat.le_of_ble_eq_true rfl) ?_
            refine lv_aload_n hx hb dX11_numberNow_59 rfl (lv_at hl 0 rfl) ?_
            refine va_get (D := (dC, dI)) (ci := 11) (v := .int (y37 8)) (C := RX11) (T := TX11) (N := 61) hx hb hts hin11 hown hK hP 0 rfl rfl 22 (Nat.le_of_ble_eq_true rfl) hw_0 (fun _ h9 => h9) rfl dX11_numberNow_60 ?_
            refine lv_if_ne (tgt := 73) hx hb dX11_numberNow_63 rfl (fun _ => ?_) (fun c9 => absurd c9 (iv_ne hq39 ivk_0 (by decide)))
            refine lv_iload_n hx hb dX11_numberNow_73 rfl (lv_at hl 1 rfl) ?_
            have hP9 := hP
            have hD9 := hD
            exact W.iret (v := 1) hx hb hr (fun t ht hW => ⟨⟨1, (), rfl, ⟨(iv_w ivk_1 (by decide) (by decide)), fun hk => (ok_fail ((nr_3 hRr c3 (Int32.not_lt.mp c6) (Or.inr (Int32.not_le.mp c32))).symm ▸ hk)).elim⟩, y37, hq38, (show (y37 2).toInt = (x0 2).toInt from by omega), (show y37 3 = x0 3 from hq41), (show RRd tT nN y37 (numT tT 1 60 sS) from (nr_3 hRr c3 (Int32.not_lt.mp c6) (Or.inr (Int32.not_le.mp c32))) ▸ hq42), (show y37 1 = x0 1 from hq43), (show y37 10 = x0 10 from hq44), by rw [ht]; exact hP9, hD9⟩, hS.F ht⟩) hS.2.2 dX11_numberNow_74
    · refine lv_aload_n hx hb dX11_numberNow_17 rfl (lv_at hl 0 rfl) ?_
      refine lv_iconst (v := 1) hx hb dX11_numberNow_18 ic_1 ?_
      obtain ⟨hPc, hDc, hFc, hJn⟩ := cl_a (wc := [(m0, .inr (11, oX11 ra x0))]) (wr := []) hP hD hS hA [0] [] rfl rfl (by decide +kernel)
      refine va_callv (va_runV (As := [.int 1]) (rest := []) ⟨hx, hb, hml, hown, hts⟩ (s11_wrong l dC dI kB kI kJ kZ kC kS s.heap.size m0 ra x0 1 tT nN sS (hX) ((iv_w ivk_1 (by decide) (by decide))) (hRr)) (cwV 1 hts gX11_numberNow_X11_wrong rfl rfl rfl (by decide +kernel) ⟨Nat.le_of_ble_eq_true rfl, Nat.le_of_ble_eq_true rfl⟩) ⟨fun a U g mk q => by obtain ⟨q0, q1, qP, qE, qD⟩ := q; exact ⟨q0, q1, qP, kE_call qE, qD⟩, va_recv hK hP (ci := 11) (q0 := 0) rfl rfl, fun U hU hW => ⟨rfl, by rw [hU], by rw [hU]; exact hPc, kE_warm hW hE, hDc.weaken (fun _ _ _ _ => trivial)⟩⟩ rfl rfl hl.1 rfl (lv_room (Nat.le_of_ble_eq_true rfl)) dX11_numberNow_19 ⟨Nat.le_of_ble_eq_true rfl, Nat.le_of_ble_eq_true rfl⟩) hS (fun q _ h => hFc q h) hFc (fun u t H locs ht hvm w46 hB hz1 hk1 hS => ?_)
      obtain ⟨y47, hq48, hq49, hq50, hq51, hq52, hq53, hq54, hP1, hD1⟩ := hB
      try dsimp only at w46
      obtain ⟨hPa, hDa⟩ := hJn (w1 := [(m0, .inr (11, oX11 ra y47))]) hk1 ht hP1 hD1
      clear hP hD hPc hDc hFc hJn hP1 hD1 hk1
      have hP : va_P (dC, dI) vwCl [(m0, .inr (11, oX11 ra y47))] H := hPa
      have hD : va_D A [(m0, .inr (11, oX11 ra y47))] := hDa
      clear hPa hDa
      refine W.widen (k := 0) (n := 0) (Nat.le_of_ble_eq_true rfl) (Nat.le_of_ble_eq_true rfl) ?_
      refine lv_goto (tgt := 59) hx hb dX11_numberNow_22 rfl ?_
      refine lv_aload_n hx hb dX11_numberNow_59 rfl (lv_at hl 0 rfl) ?_
      refine va_get (D := (dC, dI)) (ci := 11) (v := .int (y47 8)) (C := RX11) (T := TX11) (N := 61) hx hb hts hin11 hown hK hP 0 rfl rfl 22 (Nat.le_of_ble_eq_true rfl) hw_0 (fun _ h9 => h9) rfl dX11_numberNow_60 ?_
      refine lv_if_ne (tgt := 73) hx hb dX11_numberNow_63 rfl (fun _ => ?_) (fun c9 => absurd c9 (iv_ne hq49 ivk_0 (by decide)))
      refine lv_iload_n hx hb dX11_numberNow_73 rfl (lv_at hl 1 rfl) ?_
      have hP9 := hP
      have hD9 := hD
      exact W.iret (v := 1) hx hb hr (fun t ht hW => ⟨⟨1, (), rfl, ⟨(iv_w ivk_1 (by decide) (by decide)), fun hk => (ok_fail ((nr_1 hRr c3).symm ▸ hk)).elim⟩, y47, hq48, (show (y47 2).toInt = (x0 2).toInt from by omega), (show y47 3 = x0 3 from hq51), (show RRd tT nN y47 (numT tT 1 60 sS) from (nr_1 hRr c3) ▸ hq52), (show y47 1 = x0 1 from hq53), (show y47 10 = x0 10 from hq54), by rw [ht]; exact hP9, hD9⟩, hS.F ht⟩) hS.2.2 dX11_numberNow_74
  · have b55 : iv 1 5 (x0 8) := iv_neLo c1 (hX 8 : iv 0 5 (x0 8)) ivk_0 (by decide) (by decide)
    refine lv_iload_n hx hb dX11_numberNow_7 rfl (lv_at hl 1 rfl) ?_
    have hP9 := hP
    have hD9 := hD
    exact W.iret (v := 1) hx hb hr (fun t ht hW => ⟨⟨1, (), rfl, ⟨(iv_w ivk_1 (by decide) (by decide)), fun hk => absurd (ok_num hk) (rr_no hRr c1)⟩, x0, hX, (show (x0 2).toInt = (x0 2).toInt from by omega), (show x0 3 = x0 3 from rfl), (show RRd tT nN x0 (numT tT 1 60 sS) from nr_b hRr c1 ▸ hRr), (show x0 1 = x0 1 from rfl), (show x0 10 = x0 10 from rfl), by rw [ht]; exact hP9, hD9⟩, hS.F ht⟩) hS.2.2 dX11_numberNow_8
def rm_s11_numberNow_1_50 : Room := { frames := 1, cells := 0, slots := 0, locals := 21 }
set_option maxHeartbeats 4000000 in
set_option maxRecDepth 100000 in
theorem s11_numberNow_1_50 (l : Launch) (dC : Nat → ClassId) (dI : Nat → Nat → Nat) (kB kI kJ kZ kC kS : ClassId) (sz : Nat) (m0 : Nat) (ra : Nat → Nat) (x0 : Nat → Int32) (tT : Nat → Int32) (nN : Int32) (sS : StT) (hX : fI lX11 hX11 x0) (hRr : RRd tT nN x0 sS) : Met l yX11_numberNow wsX11_numberNow rm_s11_numberNow_1_50 (va_Pc [.ref m0, .int 1, .int 50] (fun U => U.heap.size = sz ∧ va_P (dC, dI) vwCl [(m0, .inr (11, oX11 ra x0))] U.heap ∧ kE dC dI kB kI kJ kZ kC kS U ∧ va_D (fun _ => True) [(m0, .inr (11, oX11 ra x0))])) (va_Qi (fun (r : Int32) (_ : Unit) => iv 1 50 r ∧ (okT (numT tT 1 50 sS) → r = valS tT sS)) (fun _ t => ∃ (x0' : Nat → Int32), fI lX11 hX11 x0' ∧ ((x0' 2).toInt = (x0 2).toInt) ∧ (x0' 3 = x0 3) ∧ (RRd tT nN x0' (numT tT 1 50 sS)) ∧ (x0' 1 = x0 1) ∧ (x0' 10 = x0 10) ∧ va_P (dC, dI) vwCl [(m0, .inr (11, oX11 ra x0'))] t.heap ∧ va_D (va_A [(m0, .inr (11, oX11 ra x0))] sz) [(m0, .inr (11, oX11 ra x0'))]) (va_A [(m0, .inr (11, oX11 ra x0))] sz)) 0 0 (va_A [(m0, .inr (11, oX11 ra x0))] sz) := by
  refine Met.ofW (cc := cX11_numberNow) (maxL := 3) (ret := (some .int)) (by decide) rfl ?_
  intro p e s m args0 below meth c s₁ B hml hv
  obtain ⟨hargs, hsz, hP, hE, hD0⟩ := hv
  have hx := B.exec
  have hb := B.bytes
  have hr := B.returns
  have hts := atoms_spec (ws := wsX11_numberNow) B.pre
  have hown : s.vm.findClass RX11 = some m.cls := findClass_of_methodNamed B.named
  have hlocks := B.notSynchronized
  have hK := hE.1
  have hin11 : ∀ w ∈ wsX110, w ∈ wsX11_numberNow := fun _ h9 => List.mem_cons_of_mem _ (List.mem_append_right _ h9)
  have hw_0 := hts (.fieldLink RX11 184 "PathProberModel" "bad" "I") (List.mem_of_getElem? (i := 1) rfl)
  have hw_1 := hts (.fieldLink RX11 161 "PathProberModel" "token" "I") (List.mem_of_getElem? (i := 2) rfl)
  have hw_2 := hts (.fieldLink RX11 181 "PathProberModel" "stops" "I") (List.mem_of_getElem? (i := 3) rfl)
  have hw_3 := hts (.fieldLink RX11 158 "PathProberModel" "begins" "I") (List.mem_of_getElem? (i := 4) rfl)
  have hw_4 := hts (.fieldLink RX11 171 "PathProberModel" "number" "I") (List.mem_of_getElem? (i := 5) rfl)
  subst hsz
  have hD := hD0.self (sz := s.heap.size)
  generalize hAe : va_A [(m0, .inr (11, oX11 ra x0))] s.heap.size = A at hD ⊢
  have hA : ∀ q : Nat, s.heap.size ≤ q → A q := fun q h => by rw [← hAe]; exact Or.inr h
  have hS : va_S A s.heap s.heap [] := va_S.rf
  have hP : va_P (dC, dI) vwCl [(m0, .inr (11, oX11 ra x0))] s.heap := hP
  have hl := lv_entry ([.ref m0, .int 1, .int 50]) (n := 3) (Nat.le_of_ble_eq_true rfl)
  have hla : entryFrame m args0 3 = entryFrame m ([.ref m0, .int 1, .int 50] : List Value).toArray 3 := by rw [hargs]
  rw [hla, lg_entry_eq]
  generalize (lg_sl ([.ref m0, .int 1, .int 50]) ++ List.replicate (3 - (lg_sl ([.ref m0, .int 1, .int 50])).length) Slot.unset).toArray = ls at hl ⊢
  have hl : lv_has ls 3 [(0, .ref m0), (1, .int 1), (2, .int 50)] := hl
  refine lv_aload_n hx hb dX11_numberNow_0 rfl (lv_at hl 0 rfl) ?_
  refine va_get (D := (dC, dI)) (ci := 11) (v := .int (x0 8)) (C := RX11) (T := TX11) (N := 61) hx hb hts hin11 hown hK hP 0 rfl rfl 22 (Nat.le_of_ble_eq_true rfl) hw_0 (fun _ h9 => h9) rfl dX11_numberNow_1 ?_
  refine lv_if_eq (tgt := 9) hx hb dX11_numberNow_4 rfl (fun c1 => ?_) (fun c1 => ?_)
  · have b2 : iv 0 0 (x0 8) := iv_eqL c1 ivk_0
    refine lv_aload_n hx hb dX11_numberNow_9 rfl (lv_at hl 0 rfl) ?_
    refine va_get (D := (dC, dI)) (ci := 11) (v := .int (x0 4)) (C := RX11) (T := TX11) (N := 61) hx hb hts hin11 hown hK hP 0 rfl rfl 18 (Nat.le_of_ble_eq_true rfl) hw_1 (fun _ h9 => h9) rfl dX11_numberNow_10 ?_
    refine lv_iconst (v := 2) hx hb dX11_numberNow_13 ic_2 ?_
    refine lv_icmp_eq (tgt := 25) hx hb dX11_numberNow_14 rfl (fun c3 => ?_) (fun c3 => ?_)
    · have b4 : iv 2 2 (x0 4) := iv_eqL c3 ivk_2
      refine lv_aload_n hx hb dX11_numberNow_25 rfl (lv_at hl 0 rfl) ?_
      refine va_get (D := (dC, dI)) (ci := 11) (v := .int (x0 7)) (C := RX11) (T := TX11) (N := 61) hx hb hts hin11 hown hK hP 0 rfl rfl 21 (Nat.le_of_ble_eq_true rfl) hw_2 (fun _ h9 => h9) rfl dX11_numberNow_26 ?_
      refine lv_aload_n hx hb dX11_numberNow_29 rfl (lv_at hl 0 rfl) ?_
      refine va_get (D := (dC, dI)) (ci := 11) (v := .int (x0 6)) (C := RX11) (T := TX11) (N := 61) hx hb hts hin11 hown hK hP 0 rfl rfl 20 (Nat.le_of_ble_eq_true rfl) hw_3 (fun _ h9 => h9) rfl dX11_numberNow_30 ?_
      refine lv_isub hx hb dX11_numberNow_33 ?_
      have b5 : iv (-700) 700 ((x0 7) - (x0 6)) := iv_sub (hX 7 : iv 0 700 (x0 7)) (hX 6 : iv 0 700 (x0 6)) (by decide) (by decide) (by decide) (by decide)
      refine lv_iconst (v := 2) hx hb dX11_numberNow_34 ic_2 ?_
      refine lv_icmp_gt (tgt := 54) hx hb dX11_numberNow_35 rfl (fun c6 => ?_) (fun c6 => ?_)
      · have b7 : iv 3 700 ((x0 7) - (x0 6)) := iv_ltR c6 ivk_2 b5 (by decide) (by decide)
        refine lv_aload_n hx hb dX11_numberNow_54 rfl (lv_at hl 0 rfl) ?_
        refine lv_iconst (v := 2) hx hb dX11_numberNow_55 ic_2 ?_
        obtain ⟨hPc, hDc, hFc, hJn⟩ := cl_a (wc := [(m0, .inr (11, oX11 ra x0))]) (wr := []) hP hD hS hA [0] [] rfl rfl (by decide +kernel)
        refine va_callv (va_runV (As := [.int 2]) (rest := []) ⟨hx, hb, hml, hown, hts⟩ (s11_wrong l dC dI kB kI kJ kZ kC kS s.heap.size m0 ra x0 2 tT nN sS (hX) ((iv_w ivk_2 (by decide) (by decide))) (hRr)) (cwV 1 hts gX11_numberNow_X11_wrong rfl rfl rfl (by decide +kernel) ⟨Nat.le_of_ble_eq_true rfl, Nat.le_of_ble_eq_true rfl⟩) ⟨fun a U g mk q => by obtain ⟨q0, q1, qP, qE, qD⟩ := q; exact ⟨q0, q1, qP, kE_call qE, qD⟩, va_recv hK hP (ci := 11) (q0 := 0) rfl rfl, fun U hU hW => ⟨rfl, by rw [hU], by rw [hU]; exact hPc, kE_warm hW hE, hDc.weaken (fun _ _ _ _ => trivial)⟩⟩ rfl rfl hl.1 rfl (lv_room (Nat.le_of_ble_eq_true rfl)) dX11_numberNow_56 ⟨Nat.le_of_ble_eq_true rfl, Nat.le_of_ble_eq_true rfl⟩) hS (fun q _ h => hFc q h) hFc (fun u t H locs ht hvm w9 hB hz1 hk1 hS => ?_)
        obtain ⟨y10, hq11, hq12, hq13, hq14, hq15, hq16, hq17, hP1, hD1⟩ := hB
        try dsimp only at w9
        obtain ⟨hPa, hDa⟩ := hJn (w1 := [(m0, .inr (11, oX11 ra y10))]) hk1 ht hP1 hD1
        clear hP hD hPc hDc hFc hJn hP1 hD1 hk1
        have hP : va_P (dC, dI) vwCl [(m0, .inr (11, oX11 ra y10))] H := hPa
        have hD : va_D A [(m0, .inr (11, oX11 ra y10))] := hDa
        clear hPa hDa
        refine W.widen (k := 0) (n := 0) (Nat.le_of_ble_eq_true rfl) (Nat.le_of_ble_eq_true rfl) ?_
        refine lv_aload_n hx hb dX11_numberNow_59 rfl (lv_at hl 0 rfl) ?_
        refine va_get (D := (dC, dI)) (ci := 11) (v := .int (y10 8)) (C := RX11) (T := TX11) (N := 61) hx hb hts hin11 hown hK hP 0 rfl rfl 22 (Nat.le_of_ble_eq_true rfl) hw_0 (fun _ h9 => h9) rfl dX11_numberNow_60 ?_
        refine lv_if_ne (tgt := 73) hx hb dX11_numberNow_63 rfl (fun _ => ?_) (fun c9 => absurd c9 (iv_ne hq12 ivk_0 (by decide)))
        refine lv_iload_n hx hb dX11_numberNow_73 rfl (lv_at hl 1 rfl) ?_
        have hP9 := hP
        have hD9 := hD
        exact W.iret (v := 1) hx hb hr (fun t ht hW => ⟨⟨1, (), rfl, ⟨(iv_w ivk_1 (by decide) (by decide)), fun hk => (ok_fail ((nr_2 hRr c3 c6).symm ▸ hk)).elim⟩, y10, hq11, (show (y10 2).toInt = (x0 2).toInt from by omega), (show y10 3 = x0 3 from hq14), (show RRd tT nN y10 (numT tT 1 50 sS) from (nr_2 hRr c3 c6) ▸ hq15), (show y10 1 = x0 1 from hq16), (show y10 10 = x0 10 from hq17), by rw [ht]; exact hP9, hD9⟩, hS.F ht⟩) hS.2.2 dX11_numberNow_74
      · have b18 : iv (-700) 2 ((x0 7) - (x0 6)) := iv_leL (Int32.not_lt.mp c6) b5 ivk_2 (by decide) (by decide)
        refine lv_aload_n hx hb dX11_numberNow_38 rfl (lv_at hl 0 rfl) ?_
        refine va_get (D := (dC, dI)) (ci := 11) (v := .int (x0 5)) (C := RX11) (T := TX11) (N := 61) hx hb hts hin11 hown hK hP 0 rfl rfl 19 (Nat.le_of_ble_eq_true rfl) hw_4 (fun _ h9 => h9) rfl dX11_numberNow_39 ?_
        refine lv_iload_n hx hb dX11_numberNow_42 rfl (lv_at hl 1 rfl) ?_
        refine lv_icmp_lt (tgt := 54) hx hb dX11_numberNow_43 rfl (fun c19 => ?_) (fun c19 => ?_)
        · have b20 : iv (-2147483648) 0 (x0 5) := iv_ltL c19 (hX 5 : iv (-2147483648) 2147483647 (x0 5)) ivk_1 (by decide) (by decide)
          refine lv_aload_n hx hb dX11_numberNow_54 rfl (lv_at hl 0 rfl) ?_
          refine lv_iconst (v := 2) hx hb dX11_numberNow_55 ic_2 ?_
          obtain ⟨hPc, hDc, hFc, hJn⟩ := cl_a (wc := [(m0, .inr (11, oX11 ra x0))]) (wr := []) hP hD hS hA [0] [] rfl rfl (by decide +kernel)
          refine va_callv (va_runV (As := [.int 2]) (rest := []) ⟨hx, hb, hml, hown, hts⟩ (s11_wrong l dC dI kB kI kJ kZ kC kS s.heap.size m0 ra x0 2 tT nN sS (hX) ((iv_w ivk_2 (by decide) (by decide))) (hRr)) (cwV 1 hts gX11_numberNow_X11_wrong rfl rfl rfl (by decide +kernel) ⟨Nat.le_of_ble_eq_true rfl, Nat.le_of_ble_eq_true rfl⟩) ⟨fun a U g mk q => by obtain ⟨q0, q1, qP, qE, qD⟩ := q; exact ⟨q0, q1, qP, kE_call qE, qD⟩, va_recv hK hP (ci := 11) (q0 := 0) rfl rfl, fun U hU hW => ⟨rfl, by rw [hU], by rw [hU]; exact hPc, kE_warm hW hE, hDc.weaken (fun _ _ _ _ => trivial)⟩⟩ rfl rfl hl.1 rfl (lv_room (Nat.le_of_ble_eq_true rfl)) dX11_numberNow_56 ⟨Nat.le_of_ble_eq_true rfl, Nat.le_of_ble_eq_true rfl⟩) hS (fun q _ h => hFc q h) hFc (fun u t H locs ht hvm w22 hB hz1 hk1 hS => ?_)
          obtain ⟨y23, hq24, hq25, hq26, hq27, hq28, hq29, hq30, hP1, hD1⟩ := hB
          try dsimp only at w22
          obtain ⟨hPa, hDa⟩ := hJn (w1 := [(m0, .inr (11, oX11 ra y23))]) hk1 ht hP1 hD1
          clear hP hD hPc hDc hFc hJn hP1 hD1 hk1
          have hP : va_P (dC, dI) vwCl [(m0, .inr (11, oX11 ra y23))] H := hPa
          have hD : va_D A [(m0, .inr (11, oX11 ra y23))] := hDa
          clear hPa hDa
          refine W.widen (k := 0) (n := 0) (Nat.le_of_ble_eq_true rfl) (Nat.le_of_ble_eq_true rfl) ?_
          refine lv_aload_n hx hb dX11_numberNow_59 rfl (lv_at hl 0 rfl) ?_
          refine va_get (D := (dC, dI)) (ci := 11) (v := .int (y23 8)) (C := RX11) (T := TX11) (N := 61) hx hb hts hin11 hown hK hP 0 rfl rfl 22 (Nat.le_of_ble_eq_true rfl) hw_0 (fun _ h9 => h9) rfl dX11_numberNow_60 ?_
          refine lv_if_ne (tgt := 73) hx hb dX11_numberNow_63 rfl (fun _ => ?_) (fun c9 => absurd c9 (iv_ne hq25 ivk_0 (by decide)))
          refine lv_iload_n hx hb dX11_numberNow_73 rfl (lv_at hl 1 rfl) ?_
          have hP9 := hP
          have hD9 := hD
          exact W.iret (v := 1) hx hb hr (fun t ht hW => ⟨⟨1, (), rfl, ⟨(iv_w ivk_1 (by decide) (by decide)), fun hk => (ok_fail ((nr_3 hRr c3 (Int32.not_lt.mp c6) (Or.inl c19)).symm ▸ hk)).elim⟩, y23, hq24, (show (y23 2).toInt = (x0 2).toInt from by omega), (show y23 3 = x0 3 from hq27), (show RRd tT nN y23 (numT tT 1 50 sS) from (nr_3 hRr c3 (Int32.not_lt.mp c6) (Or.inl c19)) ▸ hq28), (show y23 1 = x0 1 from hq29), (show y23 10 = x0 10 from hq30), by rw [ht]; exact hP9, hD9⟩, hS.F ht⟩) hS.2.2 dX11_numberNow_74
        · have b31 : iv 1 2147483647 (x0 5) := iv_leR (Int32.not_lt.mp c19) ivk_1 (hX 5 : iv (-2147483648) 2147483647 (x0 5)) (by decide) (by decide)
          refine lv_aload_n hx hb dX11_numberNow_46 rfl (lv_at hl 0 rfl) ?_
          refine va_get (D := (dC, dI)) (ci := 11) (v := .int (x0 5)) (C := RX11) (T := TX11) (N := 61) hx hb hts hin11 hown hK hP 0 rfl rfl 19 (Nat.le_of_ble_eq_true rfl) hw_4 (fun _ h9 => h9) rfl dX11_numberNow_47 ?_
          refine lv_iload_n hx hb dX11_numberNow_50 rfl (lv_at hl 2 rfl) ?_
          refine lv_icmp_le (tgt := 59) hx hb dX11_numberNow_51 rfl (fun c32 => ?_) (fun c32 => ?_)
          · have b33 : iv 1 50 (x0 5) := iv_leL c32 b31 ivk_50 (by decide) (by decide)
            refine lv_aload_n hx hb dX11_numberNow_59 rfl (lv_at hl 0 rfl) ?_
            refine va_get (D := (dC, dI)) (ci := 11) (v := .int (x0 8)) (C := RX11) (T := TX11) (N := 61) hx hb hts hin11 hown hK hP 0 rfl rfl 22 (Nat.le_of_ble_eq_true rfl) hw_0 (fun _ h9 => h9) rfl dX11_numberNow_60 ?_
            refine lv_if_ne (tgt := 73) hx hb dX11_numberNow_63 rfl (fun c9 => absurd (c1) c9) (fun _ => ?_)
            refine lv_aload_n hx hb dX11_numberNow_66 rfl (lv_at hl 0 rfl) ?_
            refine va_get (D := (dC, dI)) (ci := 11) (v := .int (x0 5)) (C := RX11) (T := TX11) (N := 61) hx hb hts hin11 hown hK hP 0 rfl rfl 19 (Nat.le_of_ble_eq_true rfl) hw_4 (fun _ h9 => h9) rfl dX11_numberNow_67 ?_
            refine lv_goto (tgt := 74) hx hb dX11_numberNow_70 rfl ?_
            have hP9 := hP
            have hD9 := hD
            exact W.iret (v := x0 5) hx hb hr (fun t ht hW => ⟨⟨x0 5, (), rfl, ⟨b33, fun _ => (nr_ok hRr c1 c3 (Int32.not_lt.mp c6) (Int32.not_lt.mp c19) c32).2⟩, x0, hX, (show (x0 2).toInt = (x0 2).toInt from by omega), (show x0 3 = x0 3 from rfl), (show RRd tT nN x0 (numT tT 1 50 sS) from (nr_ok hRr c1 c3 (Int32.not_lt.mp c6) (Int32.not_lt.mp c19) c32).1 ▸ hRr), (show x0 1 = x0 1 from rfl), (show x0 10 = x0 10 from rfl), by rw [ht]; exact hP9, hD9⟩, hS.F ht⟩) hS.2.2 dX11_numberNow_74
          · have b34 : iv 51 2147483647 (x0 5) := iv_ltR (Int32.not_le.mp c32) ivk_50 b31 (by decide) (by decide)
            refine lv_aload_n hx hb dX11_numberNow_54 rfl (lv_at hl 0 rfl) ?_
            refine lv_iconst (v := 2) hx hb dX11_numberNow_55 ic_2 ?_
            obtain ⟨hPc, hDc, hFc, hJn⟩ := cl_a (wc := [(m0, .inr (11, oX11 ra x0))]) (wr := []) hP hD hS hA [0] [] rfl rfl (by decide +kernel)
            refine va_callv (va_runV (As := [.int 2]) (rest := []) ⟨hx, hb, hml, hown, hts⟩ (s11_wrong l dC dI kB kI kJ kZ kC kS s.heap.size m0 ra x0 2 tT nN sS (hX) ((iv_w ivk_2 (by decide) (by decide))) (hRr)) (cwV 1 hts gX11_numberNow_X11_wrong rfl rfl rfl (by decide +kernel) ⟨Nat.le_of_ble_eq_true rfl, Nat.le_of_ble_eq_true rfl⟩) ⟨fun a U g mk q => by obtain ⟨q0, q1, qP, qE, qD⟩ := q; exact ⟨q0, q1, qP, kE_call qE, qD⟩, va_recv hK hP (ci := 11) (q0 := 0) rfl rfl, fun U hU hW => ⟨rfl, by rw [hU], by rw [hU]; exact hPc, kE_warm hW hE, hDc.weaken (fun _ _ _ _ => trivial)⟩⟩ rfl rfl hl.1 rfl (lv_room (Nat.le_of_ble_eq_true rfl)) dX11_numberNow_56 ⟨Nat.le_of_ble_eq_true rfl, Nat.le_of_ble_eq_true rfl⟩) hS (fun q _ h => hFc q h) hFc (fun u t H locs ht hvm w36 hB hz1 hk1 hS => ?_)
            obtain ⟨y37, hq38, hq39, hq40, hq41, hq42, hq43, hq44, hP1, hD1⟩ := hB
            try dsimp only at w36
            obtain ⟨hPa, hDa⟩ := hJn (w1 := [(m0, .inr (11, oX11 ra y37))]) hk1 ht hP1 hD1
            clear hP hD hPc hDc hFc hJn hP1 hD1 hk1
            have hP : va_P (dC, dI) vwCl [(m0, .inr (11, oX11 ra y37))] H := hPa
            have hD : va_D A [(m0, .inr (11, oX11 ra y37))] := hDa
            clear hPa hDa
            refine W.widen (k := 0) (n := 0) (Nat.le_of_ble_eq_true rfl) (Nat.le_of_ble_eq_true rfl) ?_
            refine lv_aload_n hx hb dX11_numberNow_59 rfl (lv_at hl 0 rfl) ?_
            refine va_get (D := (dC, dI)) (ci := 11) (v := .int (y37 8)) (C := RX11) (T := TX11) (N := 61) hx hb hts hin11 hown hK hP 0 rfl rfl 22 (Nat.le_of_ble_eq_true rfl) hw_0 (fun _ h9 => h9) rfl dX11_numberNow_60 ?_
            refine lv_if_ne (tgt := 73) hx hb dX11_numberNow_63 rfl (fun _ => ?_) (fun c9 => absurd c9 (iv_ne hq39 ivk_0 (by decide)))
            refine lv_iload_n hx hb dX11_numberNow_73 rfl (lv_at hl 1 rfl) ?_
            have hP9 := hP
            have hD9 := hD
            exact W.iret (v := 1) hx hb hr (fun t ht hW => ⟨⟨1, (), rfl, ⟨(iv_w ivk_1 (by decide) (by decide)), fun hk => (ok_fail ((nr_3 hRr c3 (Int32.not_lt.mp c6) (Or.inr (Int32.not_le.mp c32))).symm ▸ hk)).elim⟩, y37, hq38, (show (y37 2).toInt = (x0 2).toInt from by omega), (show y37 3 = x0 3 from hq41), (show RRd tT nN y37 (numT tT 1 50 sS) from (nr_3 hRr c3 (Int32.not_lt.mp c6) (Or.inr (Int32.not_le.mp c32))) ▸ hq42), (show y37 1 = x0 1 from hq43), (show y37 10 = x0 10 from hq44), by rw [ht]; exact hP9, hD9⟩, hS.F ht⟩) hS.2.2 dX11_numberNow_74
    · refine lv_aload_n hx hb dX11_numberNow_17 rfl (lv_at hl 0 rfl) ?_
      refine lv_iconst (v := 1) hx hb dX11_numberNow_18 ic_1 ?_
      obtain ⟨hPc, hDc, hFc, hJn⟩ := cl_a (wc := [(m0, .inr (11, oX11 ra x0))]) (wr := []) hP hD hS hA [0] [] rfl rfl (by decide +kernel)
      refine va_callv (va_runV (As := [.int 1]) (rest := []) ⟨hx, hb, hml, hown, hts⟩ (s11_wrong l dC dI kB kI kJ kZ kC kS s.heap.size m0 ra x0 1 tT nN sS (hX) ((iv_w ivk_1 (by decide) (by decide))) (hRr)) (cwV 1 hts gX11_numberNow_X11_wrong rfl rfl rfl (by decide +kernel) ⟨Nat.le_of_ble_eq_true rfl, Nat.le_of_ble_eq_true rfl⟩) ⟨fun a U g mk q => by obtain ⟨q0, q1, qP, qE, qD⟩ := q; exact ⟨q0, q1, qP, kE_call qE, qD⟩, va_recv hK hP (ci := 11) (q0 := 0) rfl rfl, fun U hU hW => ⟨rfl, by rw [hU], by rw [hU]; exact hPc, kE_warm hW hE, hDc.weaken (fun _ _ _ _ => trivial)⟩⟩ rfl rfl hl.1 rfl (lv_room (Nat.le_of_ble_eq_true rfl)) dX11_numberNow_19 ⟨Nat.le_of_ble_eq_true rfl, Nat.le_of_ble_eq_true rfl⟩) hS (fun q _ h => hFc q h) hFc (fun u t H locs ht hvm w46 hB hz1 hk1 hS => ?_)
      obtain ⟨y47, hq48, hq49, hq50, hq51, hq52, hq53, hq54, hP1, hD1⟩ := hB
      try dsimp only at w46
      obtain ⟨hPa, hDa⟩ := hJn (w1 := [(m0, .inr (11, oX11 ra y47))]) hk1 ht hP1 hD1
      clear hP hD hPc hDc hFc hJn hP1 hD1 hk1
      have hP : va_P (dC, dI) vwCl [(m0, .inr (11, oX11 ra y47))] H := hPa
      have hD : va_D A [(m0, .inr (11, oX11 ra y47))] := hDa
      clear hPa hDa
      refine W.widen (k := 0) (n := 0) (Nat.le_of_ble_eq_true rfl) (Nat.le_of_ble_eq_true rfl) ?_
      refine lv_goto (tgt := 59) hx hb dX11_numberNow_22 rfl ?_
      refine lv_aload_n hx hb dX11_numberNow_59 rfl (lv_at hl 0 rfl) ?_
      refine va_get (D := (dC, dI)) (ci := 11) (v := .int (y47 8)) (C := RX11) (T := TX11) (N := 61) hx hb hts hin11 hown hK hP 0 rfl rfl 22 (Nat.le_of_ble_eq_true rfl) hw_0 (fun _ h9 => h9) rfl dX11_numberNow_60 ?_
      refine lv_if_ne (tgt := 73) hx hb dX11_numberNow_63 rfl (fun _ => ?_) (fun c9 => absurd c9 (iv_ne hq49 ivk_0 (by decide)))
      refine lv_iload_n hx hb dX11_numberNow_73 rfl (lv_at hl 1 rfl) ?_
      have hP9 := hP
      have hD9 := hD
      exact W.iret (v := 1) hx hb hr (fun t ht hW => ⟨⟨1, (), rfl, ⟨(iv_w ivk_1 (by decide) (by decide)), fun hk => (ok_fail ((nr_1 hRr c3).symm ▸ hk)).elim⟩, y47, hq48, (show (y47 2).toInt = (x0 2).toInt from by omega), (show y47 3 = x0 3 from hq51), (show RRd tT nN y47 (numT tT 1 50 sS) from (nr_1 hRr c3) ▸ hq52), (show y47 1 = x0 1 from hq53), (show y47 10 = x0 10 from hq54), by rw [ht]; exact hP9, hD9⟩, hS.F ht⟩) hS.2.2 dX11_numberNow_74
  · have b55 : iv 1 5 (x0 8) := iv_neLo c1 (hX 8 : iv 0 5 (x0 8)) ivk_0 (by decide) (by decide)
    refine lv_iload_n hx hb dX11_numberNow_7 rfl (lv_at hl 1 rfl) ?_
    have hP9 := hP
    have hD9 := hD
    exact W.iret (v := 1) hx hb hr (fun t ht hW => ⟨⟨1, (), rfl, ⟨(iv_w ivk_1 (by decide) (by decide)), fun hk => absurd (ok_num hk) (rr_no hRr c1)⟩, x0, hX, (show (x0 2).toInt = (x0 2).toInt from by omega), (show x0 3 = x0 3 from rfl), (show RRd tT nN x0 (numT tT 1 50 sS) from nr_b hRr c1 ▸ hRr), (show x0 1 = x0 1 from rfl), (show x0 10 = x0 10 from rfl), by rw [ht]; exact hP9, hD9⟩, hS.F ht⟩) hS.2.2 dX11_numberNow_8
def rm_s11_readNumber_0_15 : Room := { frames := 2, cells := 0, slots := 0, locals := 43 }
set_option maxHeartbeats 4000000 in
set_option maxRecDepth 100000 in
theorem s11_readNumber_0_15 (l : Launch) (dC : Nat → ClassId) (dI : Nat → Nat → Nat) (kB kI kJ kZ kC kS : ClassId) (sz : Nat) (m0 : Nat) (ra : Nat → Nat) (x0 : Nat → Int32) (q_tape : Nat → Int32) (tT : Nat → Int32) (nN : Int32) (sS : StT) (hX : fI lX11 hX11 x0) (hq_tape : fI (fun _ => 0) (fun _ => 255) q_tape) (hRr : RRd tT nN x0 sS) (hTQ : tT = q_tape) : Met l yX11_readNumber wsX11_readNumber rm_s11_readNumber_0_15 (va_Pc [.ref m0, .int 0, .int 15] (fun U => U.heap.size = sz ∧ va_P (dC, dI) vwCl [(m0, .inr (11, oX11 ra x0)), (ra 13, .inl (kI, 700, .inl q_tape))] U.heap ∧ kE dC dI kB kI kJ kZ kC kS U ∧ va_D (fun _ => True) [(m0, .inr (11, oX11 ra x0)), (ra 13, .inl (kI, 700, .inl q_tape))])) (va_Qi (fun (r : Int32) (_ : Unit) => iv 0 15 r ∧ (okT (numT tT 0 15 sS) → r = valS tT sS)) (fun _ t => ∃ (x0' : Nat → Int32), fI lX11 hX11 x0' ∧ ((x0 2).toInt ≤ (x0' 2).toInt) ∧ (x0' 3 = x0 3) ∧ (RRd tT nN x0' (nextT tT nN (numT tT 0 15 sS))) ∧ (x0' 1 = x0 1) ∧ (x0' 10 = x0 10) ∧ va_P (dC, dI) vwCl [(m0, .inr (11, oX11 ra x0')), (ra 13, .inl (kI, 700, .inl q_tape))] t.heap ∧ va_D (va_A [(m0, .inr (11, oX11 ra x0)), (ra 13, .inl (kI, 700, .inl q_tape))] sz) [(m0, .inr (11, oX11 ra x0')), (ra 13, .inl (kI, 700, .inl q_tape))]) (va_A [(m0, .inr (11, oX11 ra x0)), (ra 13, .inl (kI, 700, .inl q_tape))] sz)) 0 0 (va_A [(m0, .inr (11, oX11 ra x0)), (ra 13, .inl (kI, 700, .inl q_tape))] sz) := by
  refine Met.ofW (cc := cX11_readNumber) (maxL := 4) (ret := (some .int)) (by decide) rfl ?_
  intro p e s m args0 below meth c s₁ B hml hv
  obtain ⟨hargs, hsz, hP, hE, hD0⟩ := hv
  have hx := B.exec
  have hb := B.bytes
  have hr := B.returns
  have hts := atoms_spec (ws := wsX11_readNumber) B.pre
  have hown : s.vm.findClass RX11 = some m.cls := findClass_of_methodNamed B.named
  have hlocks := B.notSynchronized
  have hK := hE.1
  have hin11 : ∀ w ∈ wsX110, w ∈ wsX11_readNumber := fun _ h9 => List.mem_cons_of_mem _ (List.mem_append_right _ h9)
  have hw_0 := hts (.fieldLink RX11 184 "PathProberModel" "bad" "I") (List.mem_of_getElem? (i := 1) rfl)
  subst hsz
  have hD := hD0.self (sz := s.heap.size)
  generalize hAe : va_A [(m0, .inr (11, oX11 ra x0)), (ra 13, .inl (kI, 700, .inl q_tape))] s.heap.size = A at hD ⊢
  have hA : ∀ q : Nat, s.heap.size ≤ q → A q := fun q h => by rw [← hAe]; exact Or.inr h
  have hS : va_S A s.heap s.heap [] := va_S.rf
  have hP : va_P (dC, dI) vwCl [(m0, .inr (11, oX11 ra x0)), (ra 13, .inl (kI, 700, .inl q_tape))] s.heap := hP
  have hl := lv_entry ([.ref m0, .int 0, .int 15]) (n := 4) (Nat.le_of_ble_eq_true rfl)
  have hla : entryFrame m args0 4 = entryFrame m ([.ref m0, .int 0, .int 15] : List Value).toArray 4 := by rw [hargs]
  rw [hla, lg_entry_eq]
  generalize (lg_sl ([.ref m0, .int 0, .int 15]) ++ List.replicate (4 - (lg_sl ([.ref m0, .int 0, .int 15])).length) Slot.unset).toArray = ls at hl ⊢
  have hl : lv_has ls 4 [(0, .ref m0), (1, .int 0), (2, .int 15)] := hl
  refine lv_aload_n hx hb dX11_readNumber_0 rfl (lv_at hl 0 rfl) ?_
  refine lv_iload_n hx hb dX11_readNumber_1 rfl (lv_at hl 1 rfl) ?_
  refine lv_iload_n hx hb dX11_readNumber_2 rfl (lv_at hl 2 rfl) ?_
  obtain ⟨hPc, hDc, hFc, hJn⟩ := cl_a (wc := [(m0, .inr (11, oX11 ra x0))]) (wr := [(ra 13, .inl (kI, 700, .inl q_tape))]) hP hD hS hA [0] [1] rfl rfl (by decide +kernel)
  refine va_calli (va_runV (As := [.int 0, .int 15]) (rest := []) ⟨hx, hb, hml, hown, hts⟩ (s11_numberNow_0_15 l dC dI kB kI kJ kZ kC kS s.heap.size m0 ra x0 tT nN sS (hX) (hRr)) (cwV 2 hts gX11_readNumber_X11_numberNow rfl rfl rfl (by decide +kernel) ⟨Nat.le_of_ble_eq_true rfl, Nat.le_of_ble_eq_true rfl⟩) ⟨fun a U g mk q => by obtain ⟨q0, q1, qP, qE, qD⟩ := q; exact ⟨q0, q1, qP, kE_call qE, qD⟩, va_recv hK hP (ci := 11) (q0 := 0) rfl rfl, fun U hU hW => ⟨rfl, by rw [hU], by rw [hU]; exact hPc, kE_warm hW hE, hDc.weaken (fun _ _ _ _ => trivial)⟩⟩ rfl rfl hl.1 rfl (lv_room (Nat.le_of_ble_eq_true rfl)) dX11_readNumber_3 ⟨Nat.le_of_ble_eq_true rfl, Nat.le_of_ble_eq_true rfl⟩) hS (fun q _ h => hFc q h) hFc (fun r1 u t H locs ht hvm w2 hB hz1 hk1 hS => ?_)
  obtain ⟨y3, hq4, hq5, hq6, hq7, hq8, hq9, hP1, hD1⟩ := hB
  try dsimp only at w2
  obtain ⟨hPa, hDa⟩ := hJn (w1 := [(m0, .inr (11, oX11 ra y3))]) hk1 ht hP1 hD1
  clear hP hD hPc hDc hFc hJn hP1 hD1 hk1
  have hP : va_P (dC, dI) vwCl [(ra 13, .inl (kI, 700, .inl q_tape)), (m0, .inr (11, oX11 ra y3))] H := hPa
  have hD : va_D A [(ra 13, .inl (kI, 700, .inl q_tape)), (m0, .inr (11, oX11 ra y3))] := hDa
  clear hPa hDa
  refine W.widen (k := 0) (n := 0) (Nat.le_of_ble_eq_true rfl) (Nat.le_of_ble_eq_true rfl) ?_
  have hv9 := w2.2
  refine lv_istore_n (lv' := [(3, .int r1), (0, .ref m0), (1, .int 0), (2, .int 15)]) hx hb dX11_readNumber_6 rfl hl (Nat.le_of_ble_eq_true rfl) rfl (fun ls hl => ?_)
  refine lv_aload_n hx hb dX11_readNumber_7 rfl (lv_at hl 1 rfl) ?_
  refine va_get (D := (dC, dI)) (ci := 11) (v := .int (y3 8)) (C := RX11) (T := TX11) (N := 61) hx hb hts hin11 hown hK hP 1 rfl rfl 22 (Nat.le_of_ble_eq_true rfl) hw_0 (fun _ h9 => h9) rfl dX11_readNumber_8 ?_
  refine lv_if_ne (tgt := 18) hx hb dX11_readNumber_11 rfl (fun c10 => ?_) (fun c10 => ?_)
  · have b11 : iv 1 5 (y3 8) := iv_neLo c10 (hq4 8 : iv 0 5 (y3 8)) ivk_0 (by decide) (by decide)
    refine lv_iload_n hx hb dX11_readNumber_18 rfl (lv_at hl 0 rfl) ?_
    have hPD9 := cl_s (wc := [(m0, .inr (11, oX11 ra y3)), (ra 13, .inl (kI, 700, .inl q_tape))]) hP hD [1, 0] rfl (by decide +kernel)
    have hP9 := hPD9.1
    have hD9 := hPD9.2
    exact W.iret (v := r1) hx hb hr (fun t ht hW => ⟨⟨r1, (), rfl, ⟨w2.1, hv9⟩, y3, hq4, (show (x0 2).toInt ≤ (y3 2).toInt from by omega), (show y3 3 = x0 3 from hq6), (show RRd tT nN y3 (nextT tT nN (numT tT 0 15 sS)) from rr_stepN hq7 c10), (show y3 1 = x0 1 from hq8), (show y3 10 = x0 10 from hq9), by rw [ht]; exact hP9, hD9⟩, hS.F ht⟩) hS.2.2 dX11_readNumber_19
  · have b12 : iv 0 0 (y3 8) := iv_eqL c10 ivk_0
    refine lv_aload_n hx hb dX11_readNumber_14 rfl (lv_at hl 1 rfl) ?_
    obtain ⟨hPc, hDc, hFc, hJn⟩ := cl_a (wc := [(m0, .inr (11, oX11 ra y3)), (ra 13, .inl (kI, 700, .inl q_tape))]) (wr := []) hP hD hS hA [1, 0] [] rfl rfl (by decide +kernel)
    refine va_callv (va_runV (As := []) (rest := []) ⟨hx, hb, hml, hown, hts⟩ (s11_stepOn l dC dI kB kI kJ kZ kC kS H.size m0 ra y3 q_tape tT nN (nextT tT nN (numT tT 0 15 sS)) (hq4) (hq_tape) (hq7.2) (stp_of hq7) (hTQ)) (cwV 0 hts gX11_readNumber_X11_stepOn rfl rfl rfl (by decide +kernel) ⟨Nat.le_of_ble_eq_true rfl, Nat.le_of_ble_eq_true rfl⟩) ⟨fun a U g mk q => by obtain ⟨q0, q1, qP, qE, qD⟩ := q; exact ⟨q0, q1, qP, kE_call qE, qD⟩, va_recv hK hP (ci := 11) (q0 := 1) rfl rfl, fun U hU hW => ⟨rfl, by rw [hU], by rw [hU]; exact hPc, kE_warm hW hE, hDc.weaken (fun _ _ _ _ => trivial)⟩⟩ rfl rfl hl.1 rfl (lv_room (Nat.le_of_ble_eq_true rfl)) dX11_readNumber_15 ⟨Nat.le_of_ble_eq_true rfl, Nat.le_of_ble_eq_true rfl⟩) hS (fun q _ h => hFc q h) hFc (fun u t H locs ht hvm w14 hB hz1 hk1 hS => ?_)
    obtain ⟨y15, hq16, hq17, hq18, hq19, hq20, hq21, hq22, hP1, hD1⟩ := hB
    try dsimp only at w14
    obtain ⟨hPa, hDa⟩ := hJn (w1 := [(m0, .inr (11, oX11 ra y15)), (ra 13, .inl (kI, 700, .inl q_tape))]) hk1 ht hP1 hD1
    clear hP hD hPc hDc hFc hJn hP1 hD1 hk1
    have hP : va_P (dC, dI) vwCl [(m0, .inr (11, oX11 ra y15)), (ra 13, .inl (kI, 700, .inl q_tape))] H := hPa
    have hD : va_D A [(m0, .inr (11, oX11 ra y15)), (ra 13, .inl (kI, 700, .inl q_tape))] := hDa
    clear hPa hDa
    refine W.widen (k := 0) (n := 0) (Nat.le_of_ble_eq_true rfl) (Nat.le_of_ble_eq_true rfl) ?_
    refine lv_iload_n hx hb dX11_readNumber_18 rfl (lv_at hl 0 rfl) ?_
    have hP9 := hP
    have hD9 := hD
    exact W.iret (v := r1) hx hb hr (fun t ht hW => ⟨⟨r1, (), rfl, ⟨w2.1, hv9⟩, y15, hq16, (show (x0 2).toInt ≤ (y15 2).toInt from by omega), (show y15 3 = x0 3 from hq18.trans (hq6)), (show RRd tT nN y15 (nextT tT nN (numT tT 0 15 sS)) from hq20), (show y15 1 = x0 1 from hq21.trans (hq8)), (show y15 10 = x0 10 from hq22.trans (hq9)), by rw [ht]; exact hP9, hD9⟩, hS.F ht⟩) hS.2.2 dX11_readNumber_19
def rm_s11_readNumber_1_60 : Room := { frames := 2, cells := 0, slots := 0, locals := 43 }
set_option maxHeartbeats 4000000 in
set_option maxRecDepth 100000 in
theorem s11_readNumber_1_60 (l : Launch) (dC : Nat → ClassId) (dI : Nat → Nat → Nat) (kB kI kJ kZ kC kS : ClassId) (sz : Nat) (m0 : Nat) (ra : Nat → Nat) (x0 : Nat → Int32) (q_tape : Nat → Int32) (tT : Nat → Int32) (nN : Int32) (sS : StT) (hX : fI lX11 hX11 x0) (hq_tape : fI (fun _ => 0) (fun _ => 255) q_tape) (hRr : RRd tT nN x0 sS) (hTQ : tT = q_tape) : Met l yX11_readNumber wsX11_readNumber rm_s11_readNumber_1_60 (va_Pc [.ref m0, .int 1, .int 60] (fun U => U.heap.size = sz ∧ va_P (dC, dI) vwCl [(m0, .inr (11, oX11 ra x0)), (ra 13, .inl (kI, 700, .inl q_tape))] U.heap ∧ kE dC dI kB kI kJ kZ kC kS U ∧ va_D (fun _ => True) [(m0, .inr (11, oX11 ra x0)), (ra 13, .inl (kI, 700, .inl q_tape))])) (va_Qi (fun (r : Int32) (_ : Unit) => iv 1 60 r ∧ (okT (numT tT 1 60 sS) → r = valS tT sS)) (fun _ t => ∃ (x0' : Nat → Int32), fI lX11 hX11 x0' ∧ ((x0 2).toInt ≤ (x0' 2).toInt) ∧ (x0' 3 = x0 3) ∧ (RRd tT nN x0' (nextT tT nN (numT tT 1 60 sS))) ∧ (x0' 1 = x0 1) ∧ (x0' 10 = x0 10) ∧ va_P (dC, dI) vwCl [(m0, .inr (11, oX11 ra x0')), (ra 13, .inl (kI, 700, .inl q_tape))] t.heap ∧ va_D (va_A [(m0, .inr (11, oX11 ra x0)), (ra 13, .inl (kI, 700, .inl q_tape))] sz) [(m0, .inr (11, oX11 ra x0')), (ra 13, .inl (kI, 700, .inl q_tape))]) (va_A [(m0, .inr (11, oX11 ra x0)), (ra 13, .inl (kI, 700, .inl q_tape))] sz)) 0 0 (va_A [(m0, .inr (11, oX11 ra x0)), (ra 13, .inl (kI, 700, .inl q_tape))] sz) := by
  refine Met.ofW (cc := cX11_readNumber) (maxL := 4) (ret := (some .int)) (by decide) rfl ?_
  intro p e s m args0 below meth c s₁ B hml hv
  obtain ⟨hargs, hsz, hP, hE, hD0⟩ := hv
  have hx := B.exec
  have hb := B.bytes
  have hr := B.returns
  have hts := atoms_spec (ws := wsX11_readNumber) B.pre
  have hown : s.vm.findClass RX11 = some m.cls := findClass_of_methodNamed B.named
  have hlocks := B.notSynchronized
  have hK := hE.1
  have hin11 : ∀ w ∈ wsX110, w ∈ wsX11_readNumber := fun _ h9 => List.mem_cons_of_mem _ (List.mem_append_right _ h9)
  have hw_0 := hts (.fieldLink RX11 184 "PathProberModel" "bad" "I") (List.mem_of_getElem? (i := 1) rfl)
  subst hsz
  have hD := hD0.self (sz := s.heap.size)
  generalize hAe : va_A [(m0, .inr (11, oX11 ra x0)), (ra 13, .inl (kI, 700, .inl q_tape))] s.heap.size = A at hD ⊢
  have hA : ∀ q : Nat, s.heap.size ≤ q → A q := fun q h => by rw [← hAe]; exact Or.inr h
  have hS : va_S A s.heap s.heap [] := va_S.rf
  have hP : va_P (dC, dI) vwCl [(m0, .inr (11, oX11 ra x0)), (ra 13, .inl (kI, 700, .inl q_tape))] s.heap := hP
  have hl := lv_entry ([.ref m0, .int 1, .int 60]) (n := 4) (Nat.le_of_ble_eq_true rfl)
  have hla : entryFrame m args0 4 = entryFrame m ([.ref m0, .int 1, .int 60] : List Value).toArray 4 := by rw [hargs]
  rw [hla, lg_entry_eq]
  generalize (lg_sl ([.ref m0, .int 1, .int 60]) ++ List.replicate (4 - (lg_sl ([.ref m0, .int 1, .int 60])).length) Slot.unset).toArray = ls at hl ⊢
  have hl : lv_has ls 4 [(0, .ref m0), (1, .int 1), (2, .int 60)] := hl
  refine lv_aload_n hx hb dX11_readNumber_0 rfl (lv_at hl 0 rfl) ?_
  refine lv_iload_n hx hb dX11_readNumber_1 rfl (lv_at hl 1 rfl) ?_
  refine lv_iload_n hx hb dX11_readNumber_2 rfl (lv_at hl 2 rfl) ?_
  obtain ⟨hPc, hDc, hFc, hJn⟩ := cl_a (wc := [(m0, .inr (11, oX11 ra x0))]) (wr := [(ra 13, .inl (kI, 700, .inl q_tape))]) hP hD hS hA [0] [1] rfl rfl (by decide +kernel)
  refine va_calli (va_runV (As := [.int 1, .int 60]) (rest := []) ⟨hx, hb, hml, hown, hts⟩ (s11_numberNow_1_60 l dC dI kB kI kJ kZ kC kS s.heap.size m0 ra x0 tT nN sS (hX) (hRr)) (cwV 2 hts gX11_readNumber_X11_numberNow rfl rfl rfl (by decide +kernel) ⟨Nat.le_of_ble_eq_true rfl, Nat.le_of_ble_eq_true rfl⟩) ⟨fun a U g mk q => by obtain ⟨q0, q1, qP, qE, qD⟩ := q; exact ⟨q0, q1, qP, kE_call qE, qD⟩, va_recv hK hP (ci := 11) (q0 := 0) rfl rfl, fun U hU hW => ⟨rfl, by rw [hU], by rw [hU]; exact hPc, kE_warm hW hE, hDc.weaken (fun _ _ _ _ => trivial)⟩⟩ rfl rfl hl.1 rfl (lv_room (Nat.le_of_ble_eq_true rfl)) dX11_readNumber_3 ⟨Nat.le_of_ble_eq_true rfl, Nat.le_of_ble_eq_true rfl⟩) hS (fun q _ h => hFc q h) hFc (fun r1 u t H locs ht hvm w2 hB hz1 hk1 hS => ?_)
  obtain ⟨y3, hq4, hq5, hq6, hq7, hq8, hq9, hP1, hD1⟩ := hB
  try dsimp only at w2
  obtain ⟨hPa, hDa⟩ := hJn (w1 := [(m0, .inr (11, oX11 ra y3))]) hk1 ht hP1 hD1
  clear hP hD hPc hDc hFc hJn hP1 hD1 hk1
  have hP : va_P (dC, dI) vwCl [(ra 13, .inl (kI, 700, .inl q_tape)), (m0, .inr (11, oX11 ra y3))] H := hPa
  have hD : va_D A [(ra 13, .inl (kI, 700, .inl q_tape)), (m0, .inr (11, oX11 ra y3))] := hDa
  clear hPa hDa
  refine W.widen (k := 0) (n := 0) (Nat.le_of_ble_eq_true rfl) (Nat.le_of_ble_eq_true rfl) ?_
  have hv9 := w2.2
  refine lv_istore_n (lv' := [(3, .int r1), (0, .ref m0), (1, .int 1), (2, .int 60)]) hx hb dX11_readNumber_6 rfl hl (Nat.le_of_ble_eq_true rfl) rfl (fun ls hl => ?_)
  refine lv_aload_n hx hb dX11_readNumber_7 rfl (lv_at hl 1 rfl) ?_
  refine va_get (D := (dC, dI)) (ci := 11) (v := .int (y3 8)) (C := RX11) (T := TX11) (N := 61) hx hb hts hin11 hown hK hP 1 rfl rfl 22 (Nat.le_of_ble_eq_true rfl) hw_0 (fun _ h9 => h9) rfl dX11_readNumber_8 ?_
  refine lv_if_ne (tgt := 18) hx hb dX11_readNumber_11 rfl (fun c10 => ?_) (fun c10 => ?_)
  · have b11 : iv 1 5 (y3 8) := iv_neLo c10 (hq4 8 : iv 0 5 (y3 8)) ivk_0 (by decide) (by decide)
    refine lv_iload_n hx hb dX11_readNumber_18 rfl (lv_at hl 0 rfl) ?_
    have hPD9 := cl_s (wc := [(m0, .inr (11, oX11 ra y3)), (ra 13, .inl (kI, 700, .inl q_tape))]) hP hD [1, 0] rfl (by decide +kernel)
    have hP9 := hPD9.1
    have hD9 := hPD9.2
    exact W.iret (v := r1) hx hb hr (fun t ht hW => ⟨⟨r1, (), rfl, ⟨w2.1, hv9⟩, y3, hq4, (show (x0 2).toInt ≤ (y3 2).toInt from by omega), (show y3 3 = x0 3 from hq6), (show RRd tT nN y3 (nextT tT nN (numT tT 1 60 sS)) from rr_stepN hq7 c10), (show y3 1 = x0 1 from hq8), (show y3 10 = x0 10 from hq9), by rw [ht]; exact hP9, hD9⟩, hS.F ht⟩) hS.2.2 dX11_readNumber_19
  · have b12 : iv 0 0 (y3 8) := iv_eqL c10 ivk_0
    refine lv_aload_n hx hb dX11_readNumber_14 rfl (lv_at hl 1 rfl) ?_
    obtain ⟨hPc, hDc, hFc, hJn⟩ := cl_a (wc := [(m0, .inr (11, oX11 ra y3)), (ra 13, .inl (kI, 700, .inl q_tape))]) (wr := []) hP hD hS hA [1, 0] [] rfl rfl (by decide +kernel)
    refine va_callv (va_runV (As := []) (rest := []) ⟨hx, hb, hml, hown, hts⟩ (s11_stepOn l dC dI kB kI kJ kZ kC kS H.size m0 ra y3 q_tape tT nN (nextT tT nN (numT tT 1 60 sS)) (hq4) (hq_tape) (hq7.2) (stp_of hq7) (hTQ)) (cwV 0 hts gX11_readNumber_X11_stepOn rfl rfl rfl (by decide +kernel) ⟨Nat.le_of_ble_eq_true rfl, Nat.le_of_ble_eq_true rfl⟩) ⟨fun a U g mk q => by obtain ⟨q0, q1, qP, qE, qD⟩ := q; exact ⟨q0, q1, qP, kE_call qE, qD⟩, va_recv hK hP (ci := 11) (q0 := 1) rfl rfl, fun U hU hW => ⟨rfl, by rw [hU], by rw [hU]; exact hPc, kE_warm hW hE, hDc.weaken (fun _ _ _ _ => trivial)⟩⟩ rfl rfl hl.1 rfl (lv_room (Nat.le_of_ble_eq_true rfl)) dX11_readNumber_15 ⟨Nat.le_of_ble_eq_true rfl, Nat.le_of_ble_eq_true rfl⟩) hS (fun q _ h => hFc q h) hFc (fun u t H locs ht hvm w14 hB hz1 hk1 hS => ?_)
    obtain ⟨y15, hq16, hq17, hq18, hq19, hq20, hq21, hq22, hP1, hD1⟩ := hB
    try dsimp only at w14
    obtain ⟨hPa, hDa⟩ := hJn (w1 := [(m0, .inr (11, oX11 ra y15)), (ra 13, .inl (kI, 700, .inl q_tape))]) hk1 ht hP1 hD1
    clear hP hD hPc hDc hFc hJn hP1 hD1 hk1
    have hP : va_P (dC, dI) vwCl [(m0, .inr (11, oX11 ra y15)), (ra 13, .inl (kI, 700, .inl q_tape))] H := hPa
    have hD : va_D A [(m0, .inr (11, oX11 ra y15)), (ra 13, .inl (kI, 700, .inl q_tape))] := hDa
    clear hPa hDa
    refine W.widen (k := 0) (n := 0) (Nat.le_of_ble_eq_true rfl) (Nat.le_of_ble_eq_true rfl) ?_
    refine lv_iload_n hx hb dX11_readNumber_18 rfl (lv_at hl 0 rfl) ?_
    have hP9 := hP
    have hD9 := hD
    exact W.iret (v := r1) hx hb hr (fun t ht hW => ⟨⟨r1, (), rfl, ⟨w2.1, hv9⟩, y15, hq16, (show (x0 2).toInt ≤ (y15 2).toInt from by omega), (show y15 3 = x0 3 from hq18.trans (hq6)), (show RRd tT nN y15 (nextT tT nN (numT tT 1 60 sS)) from hq20), (show y15 1 = x0 1 from hq21.trans (hq8)), (show y15 10 = x0 10 from hq22.trans (hq9)), by rw [ht]; exact hP9, hD9⟩, hS.F ht⟩) hS.2.2 dX11_readNumber_19
def rm_s11_readNumber_1_50 : Room := { frames := 2, cells := 0, slots := 0, locals := 43 }
set_option maxHeartbeats 4000000 in
set_option maxRecDepth 100000 in
theorem s11_readNumber_1_50 (l : Launch) (dC : Nat → ClassId) (dI : Nat → Nat → Nat) (kB kI kJ kZ kC kS : ClassId) (sz : Nat) (m0 : Nat) (ra : Nat → Nat) (x0 : Nat → Int32) (q_tape : Nat → Int32) (tT : Nat → Int32) (nN : Int32) (sS : StT) (hX : fI lX11 hX11 x0) (hq_tape : fI (fun _ => 0) (fun _ => 255) q_tape) (hRr : RRd tT nN x0 sS) (hTQ : tT = q_tape) : Met l yX11_readNumber wsX11_readNumber rm_s11_readNumber_1_50 (va_Pc [.ref m0, .int 1, .int 50] (fun U => U.heap.size = sz ∧ va_P (dC, dI) vwCl [(m0, .inr (11, oX11 ra x0)), (ra 13, .inl (kI, 700, .inl q_tape))] U.heap ∧ kE dC dI kB kI kJ kZ kC kS U ∧ va_D (fun _ => True) [(m0, .inr (11, oX11 ra x0)), (ra 13, .inl (kI, 700, .inl q_tape))])) (va_Qi (fun (r : Int32) (_ : Unit) => iv 1 50 r ∧ (okT (numT tT 1 50 sS) → r = valS tT sS)) (fun _ t => ∃ (x0' : Nat → Int32), fI lX11 hX11 x0' ∧ ((x0 2).toInt ≤ (x0' 2).toInt) ∧ (x0' 3 = x0 3) ∧ (RRd tT nN x0' (nextT tT nN (numT tT 1 50 sS))) ∧ (x0' 1 = x0 1) ∧ (x0' 10 = x0 10) ∧ va_P (dC, dI) vwCl [(m0, .inr (11, oX11 ra x0')), (ra 13, .inl (kI, 700, .inl q_tape))] t.heap ∧ va_D (va_A [(m0, .inr (11, oX11 ra x0)), (ra 13, .inl (kI, 700, .inl q_tape))] sz) [(m0, .inr (11, oX11 ra x0')), (ra 13, .inl (kI, 700, .inl q_tape))]) (va_A [(m0, .inr (11, oX11 ra x0)), (ra 13, .inl (kI, 700, .inl q_tape))] sz)) 0 0 (va_A [(m0, .inr (11, oX11 ra x0)), (ra 13, .inl (kI, 700, .inl q_tape))] sz) := by
  refine Met.ofW (cc := cX11_readNumber) (maxL := 4) (ret := (some .int)) (by decide) rfl ?_
  intro p e s m args0 below meth c s₁ B hml hv
  obtain ⟨hargs, hsz, hP, hE, hD0⟩ := hv
  have hx := B.exec
  have hb := B.bytes
  have hr := B.returns
  have hts := atoms_spec (ws := wsX11_readNumber) B.pre
  have hown : s.vm.findClass RX11 = some m.cls := findClass_of_methodNamed B.named
  have hlocks := B.notSynchronized
  have hK := hE.1
  have hin11 : ∀ w ∈ wsX110, w ∈ wsX11_readNumber := fun _ h9 => List.mem_cons_of_mem _ (List.mem_append_right _ h9)
  have hw_0 := hts (.fieldLink RX11 184 "PathProberModel" "bad" "I") (List.mem_of_getElem? (i := 1) rfl)
  subst hsz
  have hD := hD0.self (sz := s.heap.size)
  generalize hAe : va_A [(m0, .inr (11, oX11 ra x0)), (ra 13, .inl (kI, 700, .inl q_tape))] s.heap.size = A at hD ⊢
  have hA : ∀ q : Nat, s.heap.size ≤ q → A q := fun q h => by rw [← hAe]; exact Or.inr h
  have hS : va_S A s.heap s.heap [] := va_S.rf
  have hP : va_P (dC, dI) vwCl [(m0, .inr (11, oX11 ra x0)), (ra 13, .inl (kI, 700, .inl q_tape))] s.heap := hP
  have hl := lv_entry ([.ref m0, .int 1, .int 50]) (n := 4) (Nat.le_of_ble_eq_true rfl)
  have hla : entryFrame m args0 4 = entryFrame m ([.ref m0, .int 1, .int 50] : List Value).toArray 4 := by rw [hargs]
  rw [hla, lg_entry_eq]
  generalize (lg_sl ([.ref m0, .int 1, .int 50]) ++ List.replicate (4 - (lg_sl ([.ref m0, .int 1, .int 50])).length) Slot.unset).toArray = ls at hl ⊢
  have hl : lv_has ls 4 [(0, .ref m0), (1, .int 1), (2, .int 50)] := hl
  refine lv_aload_n hx hb dX11_readNumber_0 rfl (lv_at hl 0 rfl) ?_
  refine lv_iload_n hx hb dX11_readNumber_1 rfl (lv_at hl 1 rfl) ?_
  refine lv_iload_n hx hb dX11_readNumber_2 rfl (lv_at hl 2 rfl) ?_
  obtain ⟨hPc, hDc, hFc, hJn⟩ := cl_a (wc := [(m0, .inr (11, oX11 ra x0))]) (wr := [(ra 13, .inl (kI, 700, .inl q_tape))]) hP hD hS hA [0] [1] rfl rfl (by decide +kernel)
  refine va_calli (va_runV (As := [.int 1, .int 50]) (rest := []) ⟨hx, hb, hml, hown, hts⟩ (s11_numberNow_1_50 l dC dI kB kI kJ kZ kC kS s.heap.size m0 ra x0 tT nN sS (hX) (hRr)) (cwV 2 hts gX11_readNumber_X11_numberNow rfl rfl rfl (by decide +kernel) ⟨Nat.le_of_ble_eq_true rfl, Nat.le_of_ble_eq_true rfl⟩) ⟨fun a U g mk q => by obtain ⟨q0, q1, qP, qE, qD⟩ := q; exact ⟨q0, q1, qP, kE_call qE, qD⟩, va_recv hK hP (ci := 11) (q0 := 0) rfl rfl, fun U hU hW => ⟨rfl, by rw [hU], by rw [hU]; exact hPc, kE_warm hW hE, hDc.weaken (fun _ _ _ _ => trivial)⟩⟩ rfl rfl hl.1 rfl (lv_room (Nat.le_of_ble_eq_true rfl)) dX11_readNumber_3 ⟨Nat.le_of_ble_eq_true rfl, Nat.le_of_ble_eq_true rfl⟩) hS (fun q _ h => hFc q h) hFc (fun r1 u t H locs ht hvm w2 hB hz1 hk1 hS => ?_)
  obtain ⟨y3, hq4, hq5, hq6, hq7, hq8, hq9, hP1, hD1⟩ := hB
  try dsimp only at w2
  obtain ⟨hPa, hDa⟩ := hJn (w1 := [(m0, .inr (11, oX11 ra y3))]) hk1 ht hP1 hD1
  clear hP hD hPc hDc hFc hJn hP1 hD1 hk1
  have hP : va_P (dC, dI) vwCl [(ra 13, .inl (kI, 700, .inl q_tape)), (m0, .inr (11, oX11 ra y3))] H := hPa
  have hD : va_D A [(ra 13, .inl (kI, 700, .inl q_tape)), (m0, .inr (11, oX11 ra y3))] := hDa
  clear hPa hDa
  refine W.widen (k := 0) (n := 0) (Nat.le_of_ble_eq_true rfl) (Nat.le_of_ble_eq_true rfl) ?_
  have hv9 := w2.2
  refine lv_istore_n (lv' := [(3, .int r1), (0, .ref m0), (1, .int 1), (2, .int 50)]) hx hb dX11_readNumber_6 rfl hl (Nat.le_of_ble_eq_true rfl) rfl (fun ls hl => ?_)
  refine lv_aload_n hx hb dX11_readNumber_7 rfl (lv_at hl 1 rfl) ?_
  refine va_get (D := (dC, dI)) (ci := 11) (v := .int (y3 8)) (C := RX11) (T := TX11) (N := 61) hx hb hts hin11 hown hK hP 1 rfl rfl 22 (Nat.le_of_ble_eq_true rfl) hw_0 (fun _ h9 => h9) rfl dX11_readNumber_8 ?_
  refine lv_if_ne (tgt := 18) hx hb dX11_readNumber_11 rfl (fun c10 => ?_) (fun c10 => ?_)
  · have b11 : iv 1 5 (y3 8) := iv_neLo c10 (hq4 8 : iv 0 5 (y3 8)) ivk_0 (by decide) (by decide)
    refine lv_iload_n hx hb dX11_readNumber_18 rfl (lv_at hl 0 rfl) ?_
    have hPD9 := cl_s (wc := [(m0, .inr (11, oX11 ra y3)), (ra 13, .inl (kI, 700, .inl q_tape))]) hP hD [1, 0] rfl (by decide +kernel)
    have hP9 := hPD9.1
    have hD9 := hPD9.2
    exact W.iret (v := r1) hx hb hr (fun t ht hW => ⟨⟨r1, (), rfl, ⟨w2.1, hv9⟩, y3, hq4, (show (x0 2).toInt ≤ (y3 2).toInt from by omega), (show y3 3 = x0 3 from hq6), (show RRd tT nN y3 (nextT tT nN (numT tT 1 50 sS)) from rr_stepN hq7 c10), (show y3 1 = x0 1 from hq8), (show y3 10 = x0 10 from hq9), by rw [ht]; exact hP9, hD9⟩, hS.F ht⟩) hS.2.2 dX11_readNumber_19
  · have b12 : iv 0 0 (y3 8) := iv_eqL c10 ivk_0
    refine lv_aload_n hx hb dX11_readNumber_14 rfl (lv_at hl 1 rfl) ?_
    obtain ⟨hPc, hDc, hFc, hJn⟩ := cl_a (wc := [(m0, .inr (11, oX11 ra y3)), (ra 13, .inl (kI, 700, .inl q_tape))]) (wr := []) hP hD hS hA [1, 0] [] rfl rfl (by decide +kernel)
    refine va_callv (va_runV (As := []) (rest := []) ⟨hx, hb, hml, hown, hts⟩ (s11_stepOn l dC dI kB kI kJ kZ kC kS H.size m0 ra y3 q_tape tT nN (nextT tT nN (numT tT 1 50 sS)) (hq4) (hq_tape) (hq7.2) (stp_of hq7) (hTQ)) (cwV 0 hts gX11_readNumber_X11_stepOn rfl rfl rfl (by decide +kernel) ⟨Nat.le_of_ble_eq_true rfl, Nat.le_of_ble_eq_true rfl⟩) ⟨fun a U g mk q => by obtain ⟨q0, q1, qP, qE, qD⟩ := q; exact ⟨q0, q1, qP, kE_call qE, qD⟩, va_recv hK hP (ci := 11) (q0 := 1) rfl rfl, fun U hU hW => ⟨rfl, by rw [hU], by rw [hU]; exact hPc, kE_warm hW hE, hDc.weaken (fun _ _ _ _ => trivial)⟩⟩ rfl rfl hl.1 rfl (lv_room (Nat.le_of_ble_eq_true rfl)) dX11_readNumber_15 ⟨Nat.le_of_ble_eq_true rfl, Nat.le_of_ble_eq_true rfl⟩) hS (fun q _ h => hFc q h) hFc (fun u t H locs ht hvm w14 hB hz1 hk1 hS => ?_)
    obtain ⟨y15, hq16, hq17, hq18, hq19, hq20, hq21, hq22, hP1, hD1⟩ := hB
    try dsimp only at w14
    obtain ⟨hPa, hDa⟩ := hJn (w1 := [(m0, .inr (11, oX11 ra y15)), (ra 13, .inl (kI, 700, .inl q_tape))]) hk1 ht hP1 hD1
    clear hP hD hPc hDc hFc hJn hP1 hD1 hk1
    have hP : va_P (dC, dI) vwCl [(m0, .inr (11, oX11 ra y15)), (ra 13, .inl (kI, 700, .inl q_tape))] H := hPa
    have hD : va_D A [(m0, .inr (11, oX11 ra y15)), (ra 13, .inl (kI, 700, .inl q_tape))] := hDa
    clear hPa hDa
    refine W.widen (k := 0) (n := 0) (Nat.le_of_ble_eq_true rfl) (Nat.le_of_ble_eq_true rfl) ?_
    refine lv_iload_n hx hb dX11_readNumber_18 rfl (lv_at hl 0 rfl) ?_
    have hP9 := hP
    have hD9 := hD
    exact W.iret (v := r1) hx hb hr (fun t ht hW => ⟨⟨r1, (), rfl, ⟨w2.1, hv9⟩, y15, hq16, (show (x0 2).toInt ≤ (y15 2).toInt from by omega), (show y15 3 = x0 3 from hq18.trans (hq6)), (show RRd tT nN y15 (nextT tT nN (numT tT 1 50 sS)) from hq20), (show y15 1 = x0 1 from hq21.trans (hq8)), (show y15 10 = x0 10 from hq22.trans (hq9)), by rw [ht]; exact hP9, hD9⟩, hS.F ht⟩) hS.2.2 dX11_readNumber_19
def rm_s11_routerNow : Room := { frames := 2, cells := 0, slots := 0, locals := 43 }
set_option maxHeartbeats 4000000 in
set_option maxRecDepth 100000 in
theorem s11_routerNow (l : Launch) (dC : Nat → ClassId) (dI : Nat → Nat → Nat) (kB kI kJ kZ kC kS : ClassId) (sz : Nat) (m0 : Nat) (ra : Nat → Nat) (x0 : Nat → Int32) (q_told : Nat → Int32) (tT : Nat → Int32) (nN : Int32) (sS : StT) (hX : fI lX11 hX11 x0) (hq_told : fI lTold hTold q_told) (hRr : RRd tT nN x0 sS) : Met l yX11_routerNow wsX11_routerNow rm_s11_routerNow (va_Pc [.ref m0] (fun U => U.heap.size = sz ∧ va_P (dC, dI) vwCl [(m0, .inr (11, oX11 ra x0)), (ra 2, .inl (kI, 8, .inl q_told))] U.heap ∧ kE dC dI kB kI kJ kZ kC kS U ∧ va_D (fun _ => True) [(m0, .inr (11, oX11 ra x0)), (ra 2, .inl (kI, 8, .inl q_told))])) (va_Qi (fun (r : Int32) (_ : Unit) => iv 0 11 r ∧ (okT (rouT tT (q_told 4) sS) → r = valS tT sS)) (fun _ t => ∃ (x0' : Nat → Int32), fI lX11 hX11 x0' ∧ ((x0' 2).toInt = (x0 2).toInt) ∧ (x0' 3 = x0 3) ∧ (RRd tT nN x0' (rouT tT (q_told 4) sS)) ∧ (x0' 1 = x0 1) ∧ (x0' 10 = x0 10) ∧ va_P (dC, dI) vwCl [(m0, .inr (11, oX11 ra x0')), (ra 2, .inl (kI, 8, .inl q_told))] t.heap ∧ va_D (va_A [(m0, .inr (11, oX11 ra x0)), (ra 2, .inl (kI, 8, .inl q_told))] sz) [(m0, .inr (11, oX11 ra x0')), (ra 2, .inl (kI, 8, .inl q_told))]) (va_A [(m0, .inr (11, oX11 ra x0)), (ra 2, .inl (kI, 8, .inl q_told))] sz)) 0 0 (va_A [(m0, .inr (11, oX11 ra x0)), (ra 2, .inl (kI, 8, .inl q_told))] sz) := by
  refine Met.ofW (cc := cX11_routerNow) (maxL := 2) (ret := (some .int)) (by decide) rfl ?_
  intro p e s m args0 below meth c s₁ B hml hv
  obtain ⟨hargs, hsz, hP, hE, hD0⟩ := hv
  have hx := B.exec
  have hb := B.bytes
  have hr := B.returns
  have hts := atoms_spec (ws := wsX11_routerNow) B.pre
  have hown : s.vm.findClass RX11 = some m.cls := findClass_of_methodNamed B.named
  have hlocks := B.notSynchronized
  have hK := hE.1
  have hin11 : ∀ w ∈ wsX110, w ∈ wsX11_routerNow := fun _ h9 => List.mem_cons_of_mem _ (List.mem_append_right _ h9)
  have hw_0 := hts (.fieldLink RX11 184 "PathProberModel" "bad" "I") (List.mem_of_getElem? (i := 1) rfl)
  have hw_1 := hts (.fieldLink RX11 34 "PathProberModel" "told" "[I") (List.mem_of_getElem? (i := 2) rfl)
  subst hsz
  have hD := hD0.self (sz := s.heap.size)
  generalize hAe : va_A [(m0, .inr (11, oX11 ra x0)), (ra 2, .inl (kI, 8, .inl q_told))] s.heap.size = A at hD ⊢
  have hA : ∀ q : Nat, s.heap.size ≤ q → A q := fun q h => by rw [← hAe]; exact Or.inr h
  have hS : va_S A s.heap s.heap [] := va_S.rf
  have hP : va_P (dC, dI) vwCl [(m0, .inr (11, oX11 ra x0)), (ra 2, .inl (kI, 8, .inl q_told))] s.heap := hP
  have hl := lv_entry ([.ref m0]) (n := 2) (Nat.le_of_ble_eq_true rfl)
  have hla : entryFrame m args0 2 = entryFrame m ([.ref m0] : List Value).toArray 2 := by rw [hargs]
  rw [hla, lg_entry_eq]
  generalize (lg_sl ([.ref m0]) ++ List.replicate (2 - (lg_sl ([.ref m0])).length) Slot.unset).toArray = ls at hl ⊢
  have hl : lv_has ls 2 [(0, .ref m0)] := hl
  refine lv_aload_n hx hb dX11_routerNow_0 rfl (lv_at hl 0 rfl) ?_
  refine lv_iconst (v := 0) hx hb dX11_routerNow_1 ic_0 ?_
  refine lv_bipush (v := 11) hx hb dX11_routerNow_2 bp_11 ?_
  obtain ⟨hPc, hDc, hFc, hJn⟩ := cl_a (wc := [(m0, .inr (11, oX11 ra x0))]) (wr := [(ra 2, .inl (kI, 8, .inl q_told))]) hP hD hS hA [0] [1] rfl rfl (by decide +kernel)
  refine va_calli (va_runV (As := [.int 0, .int 11]) (rest := []) ⟨hx, hb, hml, hown, hts⟩ (s11_numberNow_0_11 l dC dI kB kI kJ kZ kC kS s.heap.size m0 ra x0 tT nN sS (hX) (hRr)) (cwV 2 hts gX11_routerNow_X11_numberNow rfl rfl rfl (by decide +kernel) ⟨Nat.le_of_ble_eq_true rfl, Nat.le_of_ble_eq_true rfl⟩) ⟨fun a U g mk q => by obtain ⟨q0, q1, qP, qE, qD⟩ := q; exact ⟨q0, q1, qP, kE_call qE, qD⟩, va_recv hK hP (ci := 11) (q0 := 0) rfl rfl, fun U hU hW => ⟨rfl, by rw [hU], by rw [hU]; exact hPc, kE_warm hW hE, hDc.weaken (fun _ _ _ _ => trivial)⟩⟩ rfl rfl hl.1 rfl (lv_room (Nat.le_of_ble_eq_true rfl)) dX11_routerNow_4 ⟨Nat.le_of_ble_eq_true rfl, Nat.le_of_ble_eq_true rfl⟩) hS (fun q _ h => hFc q h) hFc (fun r1 u t H locs ht hvm w2 hB hz1 hk1 hS => ?_)
  obtain ⟨y3, hq4, hq5, hq6, hq7, hq8, hq9, hP1, hD1⟩ := hB
  try dsimp only at w2
  obtain ⟨hPa, hDa⟩ := hJn (w1 := [(m0, .inr (11, oX11 ra y3))]) hk1 ht hP1 hD1
  clear hP hD hPc hDc hFc hJn hP1 hD1 hk1
  have hP : va_P (dC, dI) vwCl [(ra 2, .inl (kI, 8, .inl q_told)), (m0, .inr (11, oX11 ra y3))] H := hPa
  have hD : va_D A [(ra 2, .inl (kI, 8, .inl q_told)), (m0, .inr (11, oX11 ra y3))] := hDa
  clear hPa hDa
  refine W.widen (k := 0) (n := 0) (Nat.le_of_ble_eq_true rfl) (Nat.le_of_ble_eq_true rfl) ?_
  have hv9 := w2.2
  refine lv_istore_n (lv' := [(1, .int r1), (0, .ref m0)]) hx hb dX11_routerNow_7 rfl hl (Nat.le_of_ble_eq_true rfl) rfl (fun ls hl => ?_)
  refine lv_aload_n hx hb dX11_routerNow_8 rfl (lv_at hl 1 rfl) ?_
  refine va_get (D := (dC, dI)) (ci := 11) (v := .int (y3 8)) (C := RX11) (T := TX11) (N := 61) hx hb hts hin11 hown hK hP 1 rfl rfl 22 (Nat.le_of_ble_eq_true rfl) hw_0 (fun _ h9 => h9) rfl dX11_routerNow_9 ?_
  refine lv_if_ne (tgt := 30) hx hb dX11_routerNow_12 rfl (fun c10 => ?_) (fun c10 => ?_)
  · have b11 : iv 1 5 (y3 8) := iv_neLo c10 (hq4 8 : iv 0 5 (y3 8)) ivk_0 (by decide) (by decide)
    refine lv_iload_n hx hb dX11_routerNow_30 rfl (lv_at hl 0 rfl) ?_
    have hPD9 := cl_s (wc := [(m0, .inr (11, oX11 ra y3)), (ra 2, .inl (kI, 8, .inl q_told))]) hP hD [1, 0] rfl (by decide +kernel)
    have hP9 := hPD9.1
    have hD9 := hPD9.2
    exact W.iret (v := r1) hx hb hr (fun t ht hW => ⟨⟨r1, (), rfl, ⟨w2.1, fun hk => hv9 (ok_rou hk)⟩, y3, hq4, (show (y3 2).toInt = (x0 2).toInt from by omega), (show y3 3 = x0 3 from hq6), (show RRd tT nN y3 (rouT tT (q_told 4) sS) from (rq_n hq7 hv9 (Or.inl c10)) ▸ hq7), (show y3 1 = x0 1 from hq8), (show y3 10 = x0 10 from hq9), by rw [ht]; exact hP9, hD9⟩, hS.F ht⟩) hS.2.2 dX11_routerNow_31
  · have b12 : iv 0 0 (y3 8) := iv_eqL c10 ivk_0
    refine lv_iload_n hx hb dX11_routerNow_15 rfl (lv_at hl 0 rfl) ?_
    refine lv_aload_n hx hb dX11_routerNow_16 rfl (lv_at hl 1 rfl) ?_
    refine va_get (D := (dC, dI)) (ci := 11) (v := .ref (ra 2)) (C := RX11) (T := TX11) (N := 61) hx hb hts hin11 hown hK hP 1 rfl rfl 3 (Nat.le_of_ble_eq_true rfl) hw_1 (fun _ h9 => h9) rfl dX11_routerNow_17 ?_
    refine lv_iconst (v := 4) hx hb dX11_routerNow_20 ic_4 ?_
    refine va_iald hx hb hK hP 0 1 rfl rfl (vp_in_nI (n := 4) (by decide) (by decide)) dX11_routerNow_21 ?_
    refine W.eq (g2 := F0 m 22 ls [.int (q_told 4), .int r1]) rfl ?_
    refine lv_icmp_lt (tgt := 30) hx hb dX11_routerNow_22 rfl (fun c13 => ?_) (fun c13 => ?_)
    · have b14 : iv 1 12 (q_told 4) := iv_ltR c13 w2.1 (hq_told 4 : iv 0 12 (q_told 4)) (by decide) (by decide)
      refine lv_iload_n hx hb dX11_routerNow_30 rfl (lv_at hl 0 rfl) ?_
      have hPD9 := cl_s (wc := [(m0, .inr (11, oX11 ra y3)), (ra 2, .inl (kI, 8, .inl q_told))]) hP hD [1, 0] rfl (by decide +kernel)
      have hP9 := hPD9.1
      have hD9 := hPD9.2
      exact W.iret (v := r1) hx hb hr (fun t ht hW => ⟨⟨r1, (), rfl, ⟨w2.1, fun hk => hv9 (ok_rou hk)⟩, y3, hq4, (show (y3 2).toInt = (x0 2).toInt from by omega), (show y3 3 = x0 3 from hq6), (show RRd tT nN y3 (rouT tT (q_told 4) sS) from (rq_n hq7 hv9 (Or.inr c13)) ▸ hq7), (show y3 1 = x0 1 from hq8), (show y3 10 = x0 10 from hq9), by rw [ht]; exact hP9, hD9⟩, hS.F ht⟩) hS.2.2 dX11_routerNow_31
    · have b15 : iv 0 11 (q_told 4) := iv_leL (Int32.not_lt.mp c13) (hq_told 4 : iv 0 12 (q_told 4)) w2.1 (by decide) (by decide)
      refine lv_aload_n hx hb dX11_routerNow_25 rfl (lv_at hl 1 rfl) ?_
      refine lv_iconst (v := 3) hx hb dX11_routerNow_26 ic_3 ?_
      obtain ⟨hPc, hDc, hFc, hJn⟩ := cl_a (wc := [(m0, .inr (11, oX11 ra y3))]) (wr := [(ra 2, .inl (kI, 8, .inl q_told))]) hP hD hS hA [1] [0] rfl rfl (by decide +kernel)
      refine va_callv (va_runV (As := [.int 3]) (rest := []) ⟨hx, hb, hml, hown, hts⟩ (s11_wrong l dC dI kB kI kJ kZ kC kS H.size m0 ra y3 3 tT nN (numT tT 0 11 sS) (hq4) ((iv_w ivk_3 (by decide) (by decide))) (hq7)) (cwV 1 hts gX11_routerNow_X11_wrong rfl rfl rfl (by decide +kernel) ⟨Nat.le_of_ble_eq_true rfl, Nat.le_of_ble_eq_true rfl⟩) ⟨fun a U g mk q => by obtain ⟨q0, q1, qP, qE, qD⟩ := q; exact ⟨q0, q1, qP, kE_call qE, qD⟩, va_recv hK hP (ci := 11) (q0 := 1) rfl rfl, fun U hU hW => ⟨rfl, by rw [hU], by rw [hU]; exact hPc, kE_warm hW hE, hDc.weaken (fun _ _ _ _ => trivial)⟩⟩ rfl rfl hl.1 rfl (lv_room (Nat.le_of_ble_eq_true rfl)) dX11_routerNow_27 ⟨Nat.le_of_ble_eq_true rfl, Nat.le_of_ble_eq_true rfl⟩) hS (fun q _ h => hFc q h) hFc (fun u t H locs ht hvm w17 hB hz1 hk1 hS => ?_)
      obtain ⟨y18, hq19, hq20, hq21, hq22, hq23, hq24, hq25, hP1, hD1⟩ := hB
      try dsimp only at w17
      obtain ⟨hPa, hDa⟩ := hJn (w1 := [(m0, .inr (11, oX11 ra y18))]) hk1 ht hP1 hD1
      clear hP hD hPc hDc hFc hJn hP1 hD1 hk1
      have hP : va_P (dC, dI) vwCl [(ra 2, .inl (kI, 8, .inl q_told)), (m0, .inr (11, oX11 ra y18))] H := hPa
      have hD : va_D A [(ra 2, .inl (kI, 8, .inl q_told)), (m0, .inr (11, oX11 ra y18))] := hDa
      clear hPa hDa
      refine W.widen (k := 0) (n := 0) (Nat.le_of_ble_eq_true rfl) (Nat.le_of_ble_eq_true rfl) ?_
      refine lv_iload_n hx hb dX11_routerNow_30 rfl (lv_at hl 0 rfl) ?_
      have hPD9 := cl_s (wc := [(m0, .inr (11, oX11 ra y18)), (ra 2, .inl (kI, 8, .inl q_told))]) hP hD [1, 0] rfl (by decide +kernel)
      have hP9 := hPD9.1
      have hD9 := hPD9.2
      exact W.iret (v := r1) hx hb hr (fun t ht hW => ⟨⟨r1, (), rfl, ⟨w2.1, fun hk => hv9 (ok_rou hk)⟩, y18, hq19, (show (y18 2).toInt = (x0 2).toInt from by omega), (show y18 3 = x0 3 from hq22.trans (hq6)), (show RRd tT nN y18 (rouT tT (q_told 4) sS) from (rq_f hq7 c10 hv9 (Int32.not_lt.mp c13)) ▸ hq23), (show y18 1 = x0 1 from hq24.trans (hq8)), (show y18 10 = x0 10 from hq25.trans (hq9)), by rw [ht]; exact hP9, hD9⟩, hS.F ht⟩) hS.2.2 dX11_routerNow_31
def rm_s11_readRouter : Room := { frames := 6, cells := 0, slots := 0, locals := 130 }
set_option maxHeartbeats 4000000 in
set_option maxRecDepth 100000 in
theorem s11_readRouter (l : Launch) (dC : Nat → ClassId) (dI : Nat → Nat → Nat) (kB kI kJ kZ kC kS : ClassId) (sz : Nat) (adK : Nat → Nat) (adV : Nat → Nat) (m0 : Nat) (ra : Nat → Nat) (x0 : Nat → Int32) (q_told : Nat → Int32) (q_kind : Nat → Int32) (q_salt : Nat → Int32) (q_pace : Nat → Int32) (q_mute : Nat → Int32) (q_late : Nat → Int32) (q_from : Nat → Int32) (q_to : Nat → Int32) (q_tape : Nat → Int32) (q_words : Nat → Option Nat) (q_kinds : Nat → Option Nat) (tT : Nat → Int32) (nN : Int32) (sS : StT) (hX : fI lX11 hX11 x0) (hq_told : fI lTold hTold q_told) (hq_salt : fI (fun _ => 0) (fun _ => 15) q_salt) (hq_tape : fI (fun _ => 0) (fun _ => 255) q_tape) (hLT : ∀ j : Nat, (j : Int) < (q_told 1).toInt → (q_from j).toInt < (q_to j).toInt) (hLD : ∀ j : Nat, (j : Int) < (q_told 5).toInt → (q_from (20 + j)).toInt < (q_to (20 + j)).toInt) (hwo : ∀ k, k < 4 → q_words k = some (adK (0 + k))) (hki : ∀ k, k < 4 → q_kinds k = some (adK (4 + k))) (hRr : RRd tT nN x0 sS) (hTQ : tT = q_tape) : Met l yX11_readRouter wsX11_readRouter rm_s11_readRouter (va_Pc [.ref m0] (fun U => U.heap.size = sz ∧ va_P (dC, dI) vwCl [(m0, .inr (11, oX11 ra x0)), (ra 2, .inl (kI, 8, .inl q_told)), (ra 3, .inl (kI, 24, .inl q_kind)), (ra 4, .inl (kI, 24, .inl q_salt)), (ra 5, .inl (kI, 24, .inl q_pace)), (ra 6, .inl (kI, 24, .inl q_mute)), (ra 7, .inl (kI, 24, .inl q_late)), (ra 13, .inl (kI, 700, .inl q_tape)), (ra 1, .inl (kS, 4, .inr (.inr (.inr (.inr q_kinds)))))] U.heap ∧ kE dC dI kB kI kJ kZ kC kS U ∧ va_D (fun _ => True) [(m0, .inr (11, oX11 ra x0)), (ra 2, .inl (kI, 8, .inl q_told)), (ra 3, .inl (kI, 24, .inl q_kind)), (ra 4, .inl (kI, 24, .inl q_salt)), (ra 5, .inl (kI, 24, .inl q_pace)), (ra 6, .inl (kI, 24, .inl q_mute)), (ra 7, .inl (kI, 24, .inl q_late)), (ra 13, .inl (kI, 700, .inl q_tape)), (ra 1, .inl (kS, 4, .inr (.inr (.inr (.inr q_kinds)))))] ∧ kL adK adV (va_A [(m0, .inr (11, oX11 ra x0)), (ra 2, .inl (kI, 8, .inl q_told)), (ra 3, .inl (kI, 24, .inl q_kind)), (ra 4, .inl (kI, 24, .inl q_salt)), (ra 5, .inl (kI, 24, .inl q_pace)), (ra 6, .inl (kI, 24, .inl q_mute)), (ra 7, .inl (kI, 24, .inl q_late)), (ra 13, .inl (kI, 700, .inl q_tape)), (ra 1, .inl (kS, 4, .inr (.inr (.inr (.inr q_kinds)))))] sz) U)) (va_Qv (fun (_ : Unit) => True) (fun _ t => ∃ (x0' : Nat → Int32) (q_told' : Nat → Int32) (q_kind' : Nat → Int32) (q_salt' : Nat → Int32) (q_pace' : Nat → Int32) (q_mute' : Nat → Int32) (q_late' : Nat → Int32), fI lX11 hX11 x0' ∧ fI lTold hTold q_told' ∧ fI (fun _ => 0) (fun _ => 15) q_salt' ∧ ((x0 2).toInt ≤ (x0' 2).toInt) ∧ (x0' 3 = x0 3) ∧ (∀ j : Nat, (j : Int) < (q_told' 1).toInt → (q_from j).toInt < (q_to j).toInt) ∧ (∀ j : Nat, (j : Int) < (q_told' 5).toInt → (q_from (20 + j)).toInt < (q_to (20 + j)).toInt) ∧ (RRd tT nN x0' (rtrS tT nN sS (q_told 4))) ∧ (x0' 8 = 0 → q_told' = upd q_told 4 (q_told 4 + 1) ∧ q_kind' = upd q_kind ((12 + (q_told 4)).toNatClampNeg) (kndS tT (rtr1 tT nN sS)) ∧ q_salt' = upd q_salt ((12 + (q_told 4)).toNatClampNeg) (valS tT (rtr2 tT nN sS)) ∧ q_pace' = upd q_pace ((12 + (q_told 4)).toNatClampNeg) (valS tT (rtr3 tT nN sS)) ∧ q_mute' = upd q_mute ((12 + (q_told 4)).toNatClampNeg) (wS tT 8 (rtr4 tT nN sS)) ∧ q_late' = upd q_late ((12 + (q_told 4)).toNatClampNeg) (wS tT 9 (rtr4 tT nN sS))) ∧ (LowT q_told q_from q_to q_told' q_from q_to) ∧ (x0' 1 = x0 1) ∧ (x0' 10 = x0 10) ∧ va_P (dC, dI) vwCl [(m0, .inr (11, oX11 ra x0')), (ra 2, .inl (kI, 8, .inl q_told')), (ra 3, .inl (kI, 24, .inl q_kind')), (ra 4, .inl (kI, 24, .inl q_salt')), (ra 5, .inl (kI, 24, .inl q_pace')), (ra 6, .inl (kI, 24, .inl q_mute')), (ra 7, .inl (kI, 24, .inl q_late')), (ra 13, .inl (kI, 700, .inl q_tape)), (ra 1, .inl (kS, 4, .inr (.inr (.inr (.inr q_kinds)))))] t.heap ∧ va_D (va_A [(m0, .inr (11, oX11 ra x0)), (ra 2, .inl (kI, 8, .inl q_told)), (ra 3, .inl (kI, 24, .inl q_kind)), (ra 4, .inl (kI, 24, .inl q_salt)), (ra 5, .inl (kI, 24, .inl q_pace)), (ra 6, .inl (kI, 24, .inl q_mute)), (ra 7, .inl (kI, 24, .inl q_late)), (ra 13, .inl (kI, 700, .inl q_tape)), (ra 1, .inl (kS, 4, .inr (.inr (.inr (.inr q_kinds)))))] sz) [(m0, .inr (11, oX11 ra x0')), (ra 2, .inl (kI, 8, .inl q_told')), (ra 3, .inl (kI, 24, .inl q_kind')), (ra 4, .inl (kI, 24, .inl q_salt')), (ra 5, .inl (kI, 24, .inl q_pace')), (ra 6, .inl (kI, 24, .inl q_mute')), (ra 7, .inl (kI, 24, .inl q_late')), (ra 13, .inl (kI, 700, .inl q_tape)), (ra 1, .inl (kS, 4, .inr (.inr (.inr (.inr q_kinds)))))]) (va_A [(m0, .inr (11, oX11 ra x0)), (ra 2, .inl (kI, 8, .inl q_told)), (ra 3, .inl (kI, 24, .inl q_kind)), (ra 4, .inl (kI, 24, .inl q_salt)), (ra 5, .inl (kI, 24, .inl q_pace)), (ra 6, .inl (kI, 24, .inl q_mute)), (ra 7, .inl (kI, 24, .inl q_late)), (ra 13, .inl (kI, 700, .inl q_tape)), (ra 1, .inl (kS, 4, .inr (.inr (.inr (.inr q_kinds)))))] sz)) 0 0 (va_A [(m0, .inr (11, oX11 ra x0)), (ra 2, .inl (kI, 8, .inl q_told)), (ra 3, .inl (kI, 24, .inl q_kind)), (ra 4, .inl (kI, 24, .inl q_salt)), (ra 5, .inl (kI, 24, .inl q_pace)), (ra 6, .inl (kI, 24, .inl q_mute)), (ra 7, .inl (kI, 24, .inl q_late)), (ra 13, .inl (kI, 700, .inl q_tape)), (ra 1, .inl (kS, 4, .inr (.inr (.inr (.inr q_kinds)))))] sz) := by
  refine Met.ofW (cc := cX11_readRouter) (maxL := 3) (ret := none) (by decide) rfl ?_
  intro p e s m args0 below meth c s₁ B hml hv
  obtain ⟨hargs, hsz, hP, hE, hD0, hKL⟩ := hv
  have hx := B.exec
  have hb := B.bytes
  have hr := B.returns
  have hts := atoms_spec (ws := wsX11_readRouter) B.pre
  have hown : s.vm.findClass RX11 = some m.cls := findClass_of_methodNamed B.named
  have hlocks := B.notSynchronized
  have hK := hE.1
  have hin11 : ∀ w ∈ wsX110, w ∈ wsX11_readRouter := fun _ h9 => List.mem_cons_of_mem _ (List.mem_append_right _ h9)
  have hw_0 := hts (.fieldLink RX11 34 "PathProberModel" "told" "[I") (List.mem_of_getElem? (i := 1) rfl)
  have hw_1 := hts (.fieldLink RX11 184 "PathProberModel" "bad" "I") (List.mem_of_getElem? (i := 2) rfl)
  have hw_2 := hts (.fieldLink RX11 31 "PathProberModel" "kinds" "[Ljava/lang/String;") (List.mem_of_getElem? (i := 3) rfl)
  have hw_3 := hts (.fieldLink RX11 38 "PathProberModel" "kind" "[I") (List.mem_of_getElem? (i := 4) rfl)
  have hw_4 := hts (.fieldLink RX11 41 "PathProberModel" "salt" "[I") (List.mem_of_getElem? (i := 5) rfl)
  have hw_5 := hts (.fieldLink RX11 44 "PathProberModel" "pace" "[I") (List.mem_of_getElem? (i := 6) rfl)
  have hw_6 := hts (.fieldLink RX11 47 "PathProberModel" "mute" "[I") (List.mem_of_getElem? (i := 7) rfl)
  have hw_7 := hts (.fieldLink RX11 50 "PathProberModel" "late" "[I") (List.mem_of_getElem? (i := 8) rfl)
  subst hsz
  have hD := hD0.self (sz := s.heap.size)
  generalize hAe : va_A [(m0, .inr (11, oX11 ra x0)), (ra 2, .inl (kI, 8, .inl q_told)), (ra 3, .inl (kI, 24, .inl q_kind)), (ra 4, .inl (kI, 24, .inl q_salt)), (ra 5, .inl (kI, 24, .inl q_pace)), (ra 6, .inl (kI, 24, .inl q_mute)), (ra 7, .inl (kI, 24, .inl q_late)), (ra 13, .inl (kI, 700, .inl q_tape)), (ra 1, .inl (kS, 4, .inr (.inr (.inr (.inr q_kinds)))))] s.heap.size = A at hD hKL ⊢
  have hA : ∀ q : Nat, s.heap.size ≤ q → A q := fun q h => by rw [← hAe]; exact Or.inr h
  have hS : va_S A s.heap s.heap [] := va_S.rf
  have hP : va_P (dC, dI) vwCl [(m0, .inr (11, oX11 ra x0)), (ra 2, .inl (kI, 8, .inl q_told)), (ra 3, .inl (kI, 24, .inl q_kind)), (ra 4, .inl (kI, 24, .inl q_salt)), (ra 5, .inl (kI, 24, .inl q_pace)), (ra 6, .inl (kI, 24, .inl q_mute)), (ra 7, .inl (kI, 24, .inl q_late)), (ra 13, .inl (kI, 700, .inl q_tape)), (ra 1, .inl (kS, 4, .inr (.inr (.inr (.inr q_kinds)))))] s.heap := hP
  have hl := lv_entry ([.ref m0]) (n := 3) (Nat.le_of_ble_eq_true rfl)
  have hla : entryFrame m args0 3 = entryFrame m ([.ref m0] : List Value).toArray 3 := by rw [hargs]
  rw [hla, lg_entry_eq]
  generalize (lg_sl ([.ref m0]) ++ List.replicate (3 - (lg_sl ([.ref m0])).length) Slot.unset).toArray = ls at hl ⊢
  have hl : lv_has ls 3 [(0, .ref m0)] := hl
  refine lv_aload_n hx hb dX11_readRouter_0 rfl (lv_at hl 0 rfl) ?_
  refine va_get (D := (dC, dI)) (ci := 11) (v := .ref (ra 2)) (C := RX11) (T := TX11) (N := 61) hx hb hts hin11 hown hK hP 0 rfl rfl 3 (Nat.le_of_ble_eq_true rfl) hw_0 (fun _ h9 => h9) rfl dX11_readRouter_1 ?_
  refine lv_iconst (v := 4) hx hb dX11_readRouter_4 ic_4 ?_
  refine va_iald hx hb hK hP 1 1 rfl rfl (vp_in_nI (n := 4) (by decide) (by decide)) dX11_readRouter_5 ?_
  refine W.eq (g2 := F0 m 6 ls [.int (q_told 4)]) rfl ?_
  refine lv_bipush (v := 12) hx hb dX11_readRouter_6 bp_12 ?_
  refine lv_icmp_ne (tgt := 16) hx hb dX11_readRouter_8 rfl (fun c1 => ?_) (fun c1 => ?_)
  · have b2 : iv 0 11 (q_told 4) := iv_neHi c1 (hq_told 4 : iv 0 12 (q_told 4)) ivk_12 (by decide) (by decide)
    refine lv_aload_n hx hb dX11_readRouter_16 rfl (lv_at hl 0 rfl) ?_
    refine va_get (D := (dC, dI)) (ci := 11) (v := .int (x0 8)) (C := RX11) (T := TX11) (N := 61) hx hb hts hin11 hown hK hP 0 rfl rfl 22 (Nat.le_of_ble_eq_true rfl) hw_1 (fun _ h9 => h9) rfl dX11_readRouter_17 ?_
    refine lv_if_eq (tgt := 24) hx hb dX11_readRouter_20 rfl (fun c3 => ?_) (fun c3 => ?_)
    · have b4 : iv 0 0 (x0 8) := iv_eqL c3 ivk_0
      refine lv_aload_n hx hb dX11_readRouter_24 rfl (lv_at hl 0 rfl) ?_
      obtain ⟨hPc, hDc, hFc, hJn⟩ := cl_a (wc := [(m0, .inr (11, oX11 ra x0)), (ra 13, .inl (kI, 700, .inl q_tape))]) (wr := [(ra 2, .inl (kI, 8, .inl q_told)), (ra 3, .inl (kI, 24, .inl q_kind)), (ra 4, .inl (kI, 24, .inl q_salt)), (ra 5, .inl (kI, 24, .inl q_pace)), (ra 6, .inl (kI, 24, .inl q_mute)), (ra 7, .inl (kI, 24, .inl q_late)), (ra 1, .inl (kS, 4, .inr (.inr (.inr (.inr q_kinds)))))]) hP hD hS hA [0, 7] [1, 2, 3, 4, 5, 6, 8] rfl rfl (by decide +kernel)
      refine va_callv (va_runV (As := []) (rest := []) ⟨hx, hb, hml, hown, hts⟩ (s11_stepOn l dC dI kB kI kJ kZ kC kS s.heap.size m0 ra x0 q_tape tT nN (nextT tT nN sS) (hX) (hq_tape) (hRr.2) (stp_of hRr) (hTQ)) (cwV 0 hts gX11_readRouter_X11_stepOn rfl rfl rfl (by decide +kernel) ⟨Nat.le_of_ble_eq_true rfl, Nat.le_of_ble_eq_true rfl⟩) ⟨fun a U g mk q => by obtain ⟨q0, q1, qP, qE, qD⟩ := q; exact ⟨q0, q1, qP, kE_call qE, qD⟩, va_recv hK hP (ci := 11) (q0 := 0) rfl rfl, fun U hU hW => ⟨rfl, by rw [hU], by rw [hU]; exact hPc, kE_warm hW hE, hDc.weaken (fun _ _ _ _ => trivial)⟩⟩ rfl rfl hl.1 rfl (lv_room (Nat.le_of_ble_eq_true rfl)) dX11_readRouter_25 ⟨Nat.le_of_ble_eq_true rfl, Nat.le_of_ble_eq_true rfl⟩) hS (fun q _ h => hFc q h) hFc (fun u t H locs ht hvm w6 hB hz1 hk1 hS => ?_)
      obtain ⟨y7, hq8, hq9, hq10, hq11, hq12, hq13, hq14, hP1, hD1⟩ := hB
      try dsimp only at w6
      obtain ⟨hPa, hDa⟩ := hJn (w1 := [(m0, .inr (11, oX11 ra y7)), (ra 13, .inl (kI, 700, .inl q_tape))]) hk1 ht hP1 hD1
      clear hP hD hPc hDc hFc hJn hP1 hD1 hk1
      have hP : va_P (dC, dI) vwCl [(ra 2, .inl (kI, 8, .inl q_told)), (ra 3, .inl (kI, 24, .inl q_kind)), (ra 4, .inl (kI, 24, .inl q_salt)), (ra 5, .inl (kI, 24, .inl q_pace)), (ra 6, .inl (kI, 24, .inl q_mute)), (ra 7, .inl (kI, 24, .inl q_late)), (ra 1, .inl (kS, 4, .inr (.inr (.inr (.inr q_kinds))))), (m0, .inr (11, oX11 ra y7)), (ra 13, .inl (kI, 700, .inl q_tape))] H := hPa
      have hD : va_D A [(ra 2, .inl (kI, 8, .inl q_told)), (ra 3, .inl (kI, 24, .inl q_kind)), (ra 4, .inl (kI, 24, .inl q_salt)), (ra 5, .inl (kI, 24, .inl q_pace)), (ra 6, .inl (kI, 24, .inl q_mute)), (ra 7, .inl (kI, 24, .inl q_late)), (ra 1, .inl (kS, 4, .inr (.inr (.inr (.inr q_kinds))))), (m0, .inr (11, oX11 ra y7)), (ra 13, .inl (kI, 700, .inl q_tape))] := hDa
      clear hPa hDa
      refine W.widen (k := 0) (n := 0) (Nat.le_of_ble_eq_true rfl) (Nat.le_of_ble_eq_true rfl) ?_
      refine lv_bipush (v := 12) hx hb dX11_readRouter_28 bp_12 ?_
      refine lv_aload_n hx hb dX11_readRouter_30 rfl (lv_at hl 0 rfl) ?_
      refine va_get (D := (dC, dI)) (ci := 11) (v := .ref (ra 2)) (C := RX11) (T := TX11) (N := 61) hx hb hts hin11 hown hK hP 7 rfl rfl 3 (Nat.le_of_ble_eq_true rfl) hw_0 (fun _ h9 => h9) rfl dX11_readRouter_31 ?_
      refine lv_iconst (v := 4) hx hb dX11_readRouter_34 ic_4 ?_
      refine va_iald hx hb hK hP 0 1 rfl rfl (vp_in_nI (n := 4) (by decide) (by decide)) dX11_readRouter_35 ?_
      refine W.eq (g2 := F0 m 36 ls [.int (q_told 4), .int 12]) rfl ?_
      refine lv_iadd hx hb dX11_readRouter_36 ?_
      have b15 : iv 12 23 (12 + (q_told 4)) := iv_add ivk_12 b2 (by decide) (by decide) (by decide) (by decide)
      refine lv_istore_n (lv' := [(1, .int (12 + (q_told 4))), (0, .ref m0)]) hx hb dX11_readRouter_37 rfl hl (Nat.le_of_ble_eq_true rfl) rfl (fun ls hl => ?_)
      refine lv_aload_n hx hb dX11_readRouter_38 rfl (lv_at hl 1 rfl) ?_
      refine lv_aload_n hx hb dX11_readRouter_39 rfl (lv_at hl 1 rfl) ?_
      refine va_get (D := (dC, dI)) (ci := 11) (v := .ref (ra 1)) (C := RX11) (T := TX11) (N := 61) hx hb hts hin11 hown hK hP 7 rfl rfl 1 (Nat.le_of_ble_eq_true rfl) hw_2 (fun _ h9 => h9) rfl dX11_readRouter_40 ?_
      obtain ⟨hPc, hDc, hFc, hJn⟩ := cl_a (wc := [(m0, .inr (11, oX11 ra y7)), (ra 13, .inl (kI, 700, .inl q_tape)), (ra 1, .inl (kS, 4, .inr (.inr (.inr (.inr q_kinds)))))]) (wr := [(ra 2, .inl (kI, 8, .inl q_told)), (ra 3, .inl (kI, 24, .inl q_kind)), (ra 4, .inl (kI, 24, .inl q_salt)), (ra 5, .inl (kI, 24, .inl q_pace)), (ra 6, .inl (kI, 24, .inl q_mute)), (ra 7, .inl (kI, 24, .inl q_late))]) hP hD hS hA [7, 8, 6] [0, 1, 2, 3, 4, 5] rfl rfl (by decide +kernel)
      refine va_calli (va_runV (As := [.ref (ra 1)]) (rest := []) ⟨hx, hb, hml, hown, hts⟩ (s11_which l dC dI kB kI kJ kZ kC kS H.size adK adV m0 ra y7 q_tape (ra 1) q_kinds 4 tT nN (nextT tT nN sS) (hq8) (hq_tape) (by decide) (hki) (hq12) (hTQ)) (cwV 1 hts gX11_readRouter_X11_which rfl rfl rfl (by decide +kernel) ⟨Nat.le_of_ble_eq_true rfl, Nat.le_of_ble_eq_true rfl⟩) ⟨fun a U g mk q => by obtain ⟨q0, q1, qP, qE, qD, qL⟩ := q; exact ⟨q0, q1, qP, kE_call qE, qD, kL_call qL⟩, va_recv hK hP (ci := 11) (q0 := 7) rfl rfl, fun U hU hW => ⟨rfl, by rw [hU], by rw [hU]; exact hPc, kE_warm hW hE, hDc.weaken (fun _ _ _ _ => trivial), kL_at hKL hS hFc hW hU⟩⟩ rfl rfl hl.1 rfl (lv_room (Nat.le_of_ble_eq_true rfl)) dX11_readRouter_43 ⟨Nat.le_of_ble_eq_true rfl, Nat.le_of_ble_eq_true rfl⟩) hS (fun q _ h => hFc q h) hFc (fun r16 u t H locs ht hvm w17 hB hz1 hk1 hS => ?_)
      obtain ⟨hP1, hD1⟩ := hB
      try dsimp only at w17
      obtain ⟨hPa, hDa⟩ := hJn (w1 := [(m0, .inr (11, oX11 ra y7)), (ra 13, .inl (kI, 700, .inl q_tape)), (ra 1, .inl (kS, 4, .inr (.inr (.inr (.inr q_kinds)))))]) hk1 ht hP1 hD1
      clear hP hD hPc hDc hFc hJn hP1 hD1 hk1
      have hP : va_P (dC, dI) vwCl [(ra 2, .inl (kI, 8, .inl q_told)), (ra 3, .inl (kI, 24, .inl q_kind)), (ra 4, .inl (kI, 24, .inl q_salt)), (ra 5, .inl (kI, 24, .inl q_pace)), (ra 6, .inl (kI, 24, .inl q_mute)), (ra 7, .inl (kI, 24, .inl q_late)), (m0, .inr (11, oX11 ra y7)), (ra 13, .inl (kI, 700, .inl q_tape)), (ra 1, .inl (kS, 4, .inr (.inr (.inr (.inr q_kinds)))))] H := hPa
      have hD : va_D A [(ra 2, .inl (kI, 8, .inl q_told)), (ra 3, .inl (kI, 24, .inl q_kind)), (ra 4, .inl (kI, 24, .inl q_salt)), (ra 5, .inl (kI, 24, .inl q_pace)), (ra 6, .inl (kI, 24, .inl q_mute)), (ra 7, .inl (kI, 24, .inl q_late)), (m0, .inr (11, oX11 ra y7)), (ra 13, .inl (kI, 700, .inl q_tape)), (ra 1, .inl (kS, 4, .inr (.inr (.inr (.inr q_kinds)))))] := hDa
      clear hPa hDa
      refine W.widen (k := 0) (n := 0) (Nat.le_of_ble_eq_true rfl) (Nat.le_of_ble_eq_true rfl) ?_
      have hwk := w17.2
      refine lv_istore_n (lv' := [(2, .int r16), (1, .int (12 + (q_told 4))), (0, .ref m0)]) hx hb dX11_readRouter_46 rfl hl (Nat.le_of_ble_eq_true rfl) rfl (fun ls hl => ?_)
      refine lv_iload_n hx hb dX11_readRouter_47 rfl (lv_at hl 0 rfl) ?_
      refine lv_iconst (v := (-1)) hx hb dX11_readRouter_48 ic_m1 ?_
      refine lv_icmp_ne (tgt := 57) hx hb dX11_readRouter_49 rfl (fun c18 => ?_) (fun c18 => ?_)
      · have b19 : iv 0 3 r16 := iv_neLo c18 w17.1 ivk_m1 (by decide) (by decide)
        have hrr20 : RRd tT nN y7 (kndT tT (rtr1 tT nN sS)) := (kq_y hwk c18).1 ▸ hq12
        refine lv_aload_n hx hb dX11_readRouter_57 rfl (lv_at hl 2 rfl) ?_
        refine va_get (D := (dC, dI)) (ci := 11) (v := .int (y7 8)) (C := RX11) (T := TX11) (N := 61) hx hb hts hin11 hown hK hP 6 rfl rfl 22 (Nat.le_of_ble_eq_true rfl) hw_1 (fun _ h9 => h9) rfl dX11_readRouter_58 ?_
        refine lv_if_ne (tgt := 68) hx hb dX11_readRouter_61 rfl (fun c21 => ?_) (fun c21 => ?_)
        · have b22 : iv 1 5 (y7 8) := iv_neLo c21 (hq8 8 : iv 0 5 (y7 8)) ivk_0 (by decide) (by decide)
          have hrr23 : RRd tT nN y7 (rtr2 tT nN sS) := rr_stepN hrr20 c21
          refine lv_aload_n hx hb dX11_readRouter_68 rfl (lv_at hl 2 rfl) ?_
          refine va_get (D := (dC, dI)) (ci := 11) (v := .ref (ra 3)) (C := RX11) (T := TX11) (N := 61) hx hb hts hin11 hown hK hP 6 rfl rfl 4 (Nat.le_of_ble_eq_true rfl) hw_3 (fun _ h9 => h9) rfl dX11_readRouter_69 ?_
          refine lv_iload_n hx hb dX11_readRouter_72 rfl (lv_at hl 1 rfl) ?_
          refine lv_iload_n hx hb dX11_readRouter_73 rfl (lv_at hl 0 rfl) ?_
          refine va_iast hx hb hK hP hD hS 1 1 rfl rfl (iv_in b15 (by decide) (by decide)) dX11_readRouter_74 (fun H locs hPa hDa hS => ?_)
          clear hP hD
          have hP : va_P (dC, dI) vwCl [(ra 2, .inl (kI, 8, .inl q_told)), (ra 3, .inl (kI, 24, .inl (upd q_kind (12 + (q_told 4)).toNatClampNeg r16))), (ra 4, .inl (kI, 24, .inl q_salt)), (ra 5, .inl (kI, 24, .inl q_pace)), (ra 6, .inl (kI, 24, .inl q_mute)), (ra 7, .inl (kI, 24, .inl q_late)), (m0, .inr (11, oX11 ra y7)), (ra 13, .inl (kI, 700, .inl q_tape)), (ra 1, .inl (kS, 4, .inr (.inr (.inr (.inr q_kinds)))))] H := hPa
          have hD : va_D A [(ra 2, .inl (kI, 8, .inl q_told)), (ra 3, .inl (kI, 24, .inl (upd q_kind (12 + (q_told 4)).toNatClampNeg r16))), (ra 4, .inl (kI, 24, .inl q_salt)), (ra 5, .inl (kI, 24, .inl q_pace)), (ra 6, .inl (kI, 24, .inl q_mute)), (ra 7, .inl (kI, 24, .inl q_late)), (m0, .inr (11, oX11 ra y7)), (ra 13, .inl (kI, 700, .inl q_tape)), (ra 1, .inl (kS, 4, .inr (.inr (.inr (.inr q_kinds)))))] := hDa
          clear hPa hDa
          refine lv_aload_n hx hb dX11_readRouter_75 rfl (lv_at hl 2 rfl) ?_
          refine va_get (D := (dC, dI)) (ci := 11) (v := .ref (ra 4)) (C := RX11) (T := TX11) (N := 61) hx hb hts hin11 hown hK hP 6 rfl rfl 5 (Nat.le_of_ble_eq_true rfl) hw_4 (fun _ h9 => h9) rfl dX11_readRouter_76 ?_
          refine lv_iload_n hx hb dX11_readRouter_79 rfl (lv_at hl 1 rfl) ?_
          refine lv_aload_n hx hb dX11_readRouter_80 rfl (lv_at hl 2 rfl) ?_
          refine lv_iconst (v := 0) hx hb dX11_readRouter_81 ic_0 ?_
          refine lv_bipush (v := 15) hx hb dX11_readRouter_82 bp_15 ?_
          obtain ⟨hPc, hDc, hFc, hJn⟩ := cl_a (wc := [(m0, .inr (11, oX11 ra y7)), (ra 13, .inl (kI, 700, .inl q_tape))]) (wr := [(ra 2, .inl (kI, 8, .inl q_told)), (ra 3, .inl (kI, 24, .inl (upd q_kind (12 + (q_told 4)).toNatClampNeg r16))), (ra 4, .inl (kI, 24, .inl q_salt)), (ra 5, .inl (kI, 24, .inl q_pace)), (ra 6, .inl (kI, 24, .inl q_mute)), (ra 7, .inl (kI, 24, .inl q_late)), (ra 1, .inl (kS, 4, .inr (.inr (.inr (.inr q_kinds)))))]) hP hD hS hA [6, 7] [0, 1, 2, 3, 4, 5, 8] rfl rfl (by decide +kernel)
          refine va_calli (va_runV (As := [.int 0, .int 15]) (rest := [.int (12 + (q_told 4)), .ref (ra 4)]) ⟨hx, hb, hml, hown, hts⟩ (s11_readNumber_0_15 l dC dI kB kI kJ kZ kC kS H.size m0 ra y7 q_tape tT nN (rtr2 tT nN sS) (hq8) (hq_tape) (hrr23) (hTQ)) (cwV 2 hts gX11_readRouter_X11_readNumber rfl rfl rfl (by decide +kernel) ⟨Nat.le_of_ble_eq_true rfl, Nat.le_of_ble_eq_true rfl⟩) ⟨fun a U g mk q => by obtain ⟨q0, q1, qP, qE, qD⟩ := q; exact ⟨q0, q1, qP, kE_call qE, qD⟩, va_recv hK hP (ci := 11) (q0 := 6) rfl rfl, fun U hU hW => ⟨rfl, by rw [hU], by rw [hU]; exact hPc, kE_warm hW hE, hDc.weaken (fun _ _ _ _ => trivial)⟩⟩ rfl rfl hl.1 rfl (lv_room (Nat.le_of_ble_eq_true rfl)) dX11_readRouter_84 ⟨Nat.le_of_ble_eq_true rfl, Nat.le_of_ble_eq_true rfl⟩) hS (fun q _ h => hFc q h) hFc (fun r24 u t H locs ht hvm w25 hB hz1 hk1 hS => ?_)
          obtain ⟨y26, hq27, hq28, hq29, hq30, hq31, hq32, hP1, hD1⟩ := hB
          try dsimp only at w25
          obtain ⟨hPa, hDa⟩ := hJn (w1 := [(m0, .inr (11, oX11 ra y26)), (ra 13, .inl (kI, 700, .inl q_tape))]) hk1 ht hP1 hD1
          clear hP hD hPc hDc hFc hJn hP1 hD1 hk1
          have hP : va_P (dC, dI) vwCl [(ra 2, .inl (kI, 8, .inl q_told)), (ra 3, .inl (kI, 24, .inl (upd q_kind (12 + (q_told 4)).toNatClampNeg r16))), (ra 4, .inl (kI, 24, .inl q_salt)), (ra 5, .inl (kI, 24, .inl q_pace)), (ra 6, .inl (kI, 24, .inl q_mute)), (ra 7, .inl (kI, 24, .inl q_late)), (ra 1, .inl (kS, 4, .inr (.inr (.inr (.inr q_kinds))))), (m0, .inr (11, oX11 ra y26)), (ra 13, .inl (kI, 700, .inl q_tape))] H := hPa
          have hD : va_D A [(ra 2, .inl (kI, 8, .inl q_told)), (ra 3, .inl (kI, 24, .inl (upd q_kind (12 + (q_told 4)).toNatClampNeg r16))), (ra 4, .inl (kI, 24, .inl q_salt)), (ra 5, .inl (kI, 24, .inl q_pace)), (ra 6, .inl (kI, 24, .inl q_mute)), (ra 7, .inl (kI, 24, .inl q_late)), (ra 1, .inl (kS, 4, .inr (.inr (.inr (.inr q_kinds))))), (m0, .inr (11, oX11 ra y26)), (ra 13, .inl (kI, 700, .inl q_tape))] := hDa
          clear hPa hDa
          refine W.widen (k := 0) (n := 0) (Nat.le_of_ble_eq_true rfl) (Nat.le_of_ble_eq_true rfl) ?_
          have hv2 := w25.2
          refine va_iast hx hb hK hP hD hS 2 1 rfl rfl (iv_in b15 (by decide) (by decide)) dX11_readRouter_87 (fun H locs hPa hDa hS => ?_)
          clear hP hD
          have hP : va_P (dC, dI) vwCl [(ra 2, .inl (kI, 8, .inl q_told)), (ra 3, .inl (kI, 24, .inl (upd q_kind (12 + (q_told 4)).toNatClampNeg r16))), (ra 4, .inl (kI, 24, .inl (upd q_salt (12 + (q_told 4)).toNatClampNeg r24))), (ra 5, .inl (kI, 24, .inl q_pace)), (ra 6, .inl (kI, 24, .inl q_mute)), (ra 7, .inl (kI, 24, .inl q_late)), (ra 1, .inl (kS, 4, .inr (.inr (.inr (.inr q_kinds))))), (m0, .inr (11, oX11 ra y26)), (ra 13, .inl (kI, 700, .inl q_tape))] H := hPa
          have hD : va_D A [(ra 2, .inl (kI, 8, .inl q_told)), (ra 3, .inl (kI, 24, .inl (upd q_kind (12 + (q_told 4)).toNatClampNeg r16))), (ra 4, .inl (kI, 24, .inl (upd q_salt (12 + (q_told 4)).toNatClampNeg r24))), (ra 5, .inl (kI, 24, .inl q_pace)), (ra 6, .inl (kI, 24, .inl q_mute)), (ra 7, .inl (kI, 24, .inl q_late)), (ra 1, .inl (kS, 4, .inr (.inr (.inr (.inr q_kinds))))), (m0, .inr (11, oX11 ra y26)), (ra 13, .inl (kI, 700, .inl q_tape))] := hDa
          clear hPa hDa
          have hrr33 : RRd tT nN y26 (rtr3 tT nN sS) := hq30
          refine lv_aload_n hx hb dX11_readRouter_88 rfl (lv_at hl 2 rfl) ?_
          refine va_get (D := (dC, dI)) (ci := 11) (v := .ref (ra 5)) (C := RX11) (T := TX11) (N := 61) hx hb hts hin11 hown hK hP 7 rfl rfl 6 (Nat.le_of_ble_eq_true rfl) hw_5 (fun _ h9 => h9) rfl dX11_readRouter_89 ?_
          refine lv_iload_n hx hb dX11_readRouter_92 rfl (lv_at hl 1 rfl) ?_
          refine lv_aload_n hx hb dX11_readRouter_93 rfl (lv_at hl 2 rfl) ?_
          refine lv_iconst (v := 1) hx hb dX11_readRouter_94 ic_1 ?_
          refine lv_bipush (v := 60) hx hb dX11_readRouter_95 bp_60 ?_
          obtain ⟨hPc, hDc, hFc, hJn⟩ := cl_a (wc := [(m0, .inr (11, oX11 ra y26)), (ra 13, .inl (kI, 700, .inl q_tape))]) (wr := [(ra 2, .inl (kI, 8, .inl q_told)), (ra 3, .inl (kI, 24, .inl (upd q_kind (12 + (q_told 4)).toNatClampNeg r16))), (ra 4, .inl (kI, 24, .inl (upd q_salt (12 + (q_told 4)).toNatClampNeg r24))), (ra 5, .inl (kI, 24, .inl q_pace)), (ra 6, .inl (kI, 24, .inl q_mute)), (ra 7, .inl (kI, 24, .inl q_late)), (ra 1, .inl (kS, 4, .inr (.inr (.inr (.inr q_kinds)))))]) hP hD hS hA [7, 8] [0, 1, 2, 3, 4, 5, 6] rfl rfl (by decide +kernel)
          refine va_calli (va_runV (As := [.int 1, .int 60]) (rest := [.int (12 + (q_told 4)), .ref (ra 5)]) ⟨hx, hb, hml, hown, hts⟩ (s11_readNumber_1_60 l dC dI kB kI kJ kZ kC kS H.size m0 ra y26 q_tape tT nN (rtr3 tT nN sS) (hq27) (hq_tape) (hrr33) (hTQ)) (cwV 2 hts gX11_readRouter_X11_readNumber rfl rfl rfl (by decide +kernel) ⟨Nat.le_of_ble_eq_true rfl, Nat.le_of_ble_eq_true rfl⟩) ⟨fun a U g mk q => by obtain ⟨q0, q1, qP, qE, qD⟩ := q; exact ⟨q0, q1, qP, kE_call qE, qD⟩, va_recv hK hP (ci := 11) (q0 := 7) rfl rfl, fun U hU hW => ⟨rfl, by rw [hU], by rw [hU]; exact hPc, kE_warm hW hE, hDc.weaken (fun _ _ _ _ => trivial)⟩⟩ rfl rfl hl.1 rfl (lv_room (Nat.le_of_ble_eq_true rfl)) dX11_readRouter_97 ⟨Nat.le_of_ble_eq_true rfl, Nat.le_of_ble_eq_true rfl⟩) hS (fun q _ h => hFc q h) hFc (fun r34 u t H locs ht hvm w35 hB hz1 hk1 hS => ?_)
          obtain ⟨y36, hq37, hq38, hq39, hq40, hq41, hq42, hP1, hD1⟩ := hB
          try dsimp only at w35
          obtain ⟨hPa, hDa⟩ := hJn (w1 := [(m0, .inr (11, oX11 ra y36)), (ra 13, .inl (kI, 700, .inl q_tape))]) hk1 ht hP1 hD1
          clear hP hD hPc hDc hFc hJn hP1 hD1 hk1
          have hP : va_P (dC, dI) vwCl [(ra 2, .inl (kI, 8, .inl q_told)), (ra 3, .inl (kI, 24, .inl (upd q_kind (12 + (q_told 4)).toNatClampNeg r16))), (ra 4, .inl (kI, 24, .inl (upd q_salt (12 + (q_told 4)).toNatClampNeg r24))), (ra 5, .inl (kI, 24, .inl q_pace)), (ra 6, .inl (kI, 24, .inl q_mute)), (ra 7, .inl (kI, 24, .inl q_late)), (ra 1, .inl (kS, 4, .inr (.inr (.inr (.inr q_kinds))))), (m0, .inr (11, oX11 ra y36)), (ra 13, .inl (kI, 700, .inl q_tape))] H := hPa
          have hD : va_D A [(ra 2, .inl (kI, 8, .inl q_told)), (ra 3, .inl (kI, 24, .inl (upd q_kind (12 + (q_told 4)).toNatClampNeg r16))), (ra 4, .inl (kI, 24, .inl (upd q_salt (12 + (q_told 4)).toNatClampNeg r24))), (ra 5, .inl (kI, 24, .inl q_pace)), (ra 6, .inl (kI, 24, .inl q_mute)), (ra 7, .inl (kI, 24, .inl q_late)), (ra 1, .inl (kS, 4, .inr (.inr (.inr (.inr q_kinds))))), (m0, .inr (11, oX11 ra y36)), (ra 13, .inl (kI, 700, .inl q_tape))] := hDa
          clear hPa hDa
          refine W.widen (k := 0) (n := 0) (Nat.le_of_ble_eq_true rfl) (Nat.le_of_ble_eq_true rfl) ?_
          have hv3 := w35.2
          refine va_iast hx hb hK hP hD hS 3 1 rfl rfl (iv_in b15 (by decide) (by decide)) dX11_readRouter_100 (fun H locs hPa hDa hS => ?_)
          clear hP hD
          have hP : va_P (dC, dI) vwCl [(ra 2, .inl (kI, 8, .inl q_told)), (ra 3, .inl (kI, 24, .inl (upd q_kind (12 + (q_told 4)).toNatClampNeg r16))), (ra 4, .inl (kI, 24, .inl (upd q_salt (12 + (q_told 4)).toNatClampNeg r24))), (ra 5, .inl (kI, 24, .inl (upd q_pace (12 + (q_told 4)).toNatClampNeg r34))), (ra 6, .inl (kI, 24, .inl q_mute)), (ra 7, .inl (kI, 24, .inl q_late)), (ra 1, .inl (kS, 4, .inr (.inr (.inr (.inr q_kinds))))), (m0, .inr (11, oX11 ra y36)), (ra 13, .inl (kI, 700, .inl q_tape))] H := hPa
          have hD : va_D A [(ra 2, .inl (kI, 8, .inl q_told)), (ra 3, .inl (kI, 24, .inl (upd q_kind (12 + (q_told 4)).toNatClampNeg r16))), (ra 4, .inl (kI, 24, .inl (upd q_salt (12 + (q_told 4)).toNatClampNeg r24))), (ra 5, .inl (kI, 24, .inl (upd q_pace (12 + (q_told 4)).toNatClampNeg r34))), (ra 6, .inl (kI, 24, .inl q_mute)), (ra 7, .inl (kI, 24, .inl q_late)), (ra 1, .inl (kS, 4, .inr (.inr (.inr (.inr q_kinds))))), (m0, .inr (11, oX11 ra y36)), (ra 13, .inl (kI, 700, .inl q_tape))] := hDa
          clear hPa hDa
          have hrr43 : RRd tT nN y36 (rtr4 tT nN sS) := hq40
          refine lv_aload_n hx hb dX11_readRouter_101 rfl (lv_at hl 2 rfl) ?_
          refine va_get (D := (dC, dI)) (ci := 11) (v := .ref (ra 6)) (C := RX11) (T := TX11) (N := 61) hx hb hts hin11 hown hK hP 7 rfl rfl 7 (Nat.le_of_ble_eq_true rfl) hw_6 (fun _ h9 => h9) rfl dX11_readRouter_102 ?_
          refine lv_iload_n hx hb dX11_readRouter_105 rfl (lv_at hl 1 rfl) ?_
          refine lv_aload_n hx hb dX11_readRouter_106 rfl (lv_at hl 2 rfl) ?_
          refine va_ldcS hx hb hown hKL.2.2.2.2.2.2.2.2.2.2.2.2.2.2.2.2.2.2.2.2.2.1 dX11_readRouter_107 ?_
          obtain ⟨hPc, hDc, hFc, hJn⟩ := cl_a (wc := [(m0, .inr (11, oX11 ra y36)), (ra 13, .inl (kI, 700, .inl q_tape))]) (wr := [(ra 2, .inl (kI, 8, .inl q_told)), (ra 3, .inl (kI, 24, .inl (upd q_kind (12 + (q_told 4)).toNatClampNeg r16))), (ra 4, .inl (kI, 24, .inl (upd q_salt (12 + (q_told 4)).toNatClampNeg r24))), (ra 5, .inl (kI, 24, .inl (upd q_pace (12 + (q_told 4)).toNatClampNeg r34))), (ra 6, .inl (kI, 24, .inl q_mute)), (ra 7, .inl (kI, 24, .inl q_late)), (ra 1, .inl (kS, 4, .inr (.inr (.inr (.inr q_kinds)))))]) hP hD hS hA [7, 8] [0, 1, 2, 3, 4, 5, 6] rfl rfl (by decide +kernel)
          refine va_calli (va_runV (As := [.ref (adK 8)]) (rest := [.int (12 + (q_told 4)), .ref (ra 6)]) ⟨hx, hb, hml, hown, hts⟩ (s11_is l dC dI kB kI kJ kZ kC kS H.size adK adV m0 ra y36 q_tape 8 tT nN (rtr4 tT nN sS) (hq37) (hq_tape) ((by decide)) (hrr43) (hTQ)) (cwV 1 hts gX11_readRouter_X11_is rfl rfl rfl (by decide +kernel) ⟨Nat.le_of_ble_eq_true rfl, Nat.le_of_ble_eq_true rfl⟩) ⟨fun a U g mk q => by obtain ⟨q0, q1, qP, qE, qD, qL⟩ := q; exact ⟨q0, q1, qP, kE_call qE, qD, kL_call qL⟩, va_recv hK hP (ci := 11) (q0 := 7) rfl rfl, fun U hU hW => ⟨rfl, by rw [hU], by rw [hU]; exact hPc, kE_warm hW hE, hDc.weaken (fun _ _ _ _ => trivial), kL_at hKL hS hFc hW hU⟩⟩ rfl rfl hl.1 rfl (lv_room (Nat.le_of_ble_eq_true rfl)) dX11_readRouter_109 ⟨Nat.le_of_ble_eq_true rfl, Nat.le_of_ble_eq_true rfl⟩) hS (fun q _ h => hFc q h) hFc (fun r44 u t H locs ht hvm w45 hB hz1 hk1 hS => ?_)
          obtain ⟨hP1, hD1⟩ := hB
          try dsimp only at w45
          obtain ⟨hPa, hDa⟩ := hJn (w1 := [(m0, .inr (11, oX11 ra y36)), (ra 13, .inl (kI, 700, .inl q_tape))]) hk1 ht hP1 hD1
          clear hP hD hPc hDc hFc hJn hP1 hD1 hk1
          have hP : va_P (dC, dI) vwCl [(ra 2, .inl (kI, 8, .inl q_told)), (ra 3, .inl (kI, 24, .inl (upd q_kind (12 + (q_told 4)).toNatClampNeg r16))), (ra 4, .inl (kI, 24, .inl (upd q_salt (12 + (q_told 4)).toNatClampNeg r24))), (ra 5, .inl (kI, 24, .inl (upd q_pace (12 + (q_told 4)).toNatClampNeg r34))), (ra 6, .inl (kI, 24, .inl q_mute)), (ra 7, .inl (kI, 24, .inl q_late)), (ra 1, .inl (kS, 4, .inr (.inr (.inr (.inr q_kinds))))), (m0, .inr (11, oX11 ra y36)), (ra 13, .inl (kI, 700, .inl q_tape))] H := hPa
          have hD : va_D A [(ra 2, .inl (kI, 8, .inl q_told)), (ra 3, .inl (kI, 24, .inl (upd q_kind (12 + (q_told 4)).toNatClampNeg r16))), (ra 4, .inl (kI, 24, .inl (upd q_salt (12 + (q_told 4)).toNatClampNeg r24))), (ra 5, .inl (kI, 24, .inl (upd q_pace (12 + (q_told 4)).toNatClampNeg r34))), (ra 6, .inl (kI, 24, .inl q_mute)), (ra 7, .inl (kI, 24, .inl q_late)), (ra 1, .inl (kS, 4, .inr (.inr (.inr (.inr q_kinds))))), (m0, .inr (11, oX11 ra y36)), (ra 13, .inl (kI, 700, .inl q_tape))] := hDa
          clear hPa hDa
          refine W.widen (k := 0) (n := 0) (Nat.le_of_ble_eq_true rfl) (Nat.le_of_ble_eq_true rfl) ?_
          obtain ⟨w45, b46⟩ := w45
          subst w45
          refine lv_if_eq (tgt := 119) hx hb dX11_readRouter_112 rfl (fun c47 => ?_) (fun c47 => ?_)
          · have b48 : iv 0 0 (wS tT 8 (rtr4 tT nN sS)) := iv_eqL c47 ivk_0
            refine lv_iconst (v := 0) hx hb dX11_readRouter_119 ic_0 ?_
            refine va_iast hx hb hK hP hD hS 4 1 rfl rfl (iv_in b15 (by decide) (by decide)) dX11_readRouter_120 (fun H locs hPa hDa hS => ?_)
            clear hP hD
            have hP : va_P (dC, dI) vwCl [(ra 2, .inl (kI, 8, .inl q_told)), (ra 3, .inl (kI, 24, .inl (upd q_kind (12 + (q_told 4)).toNatClampNeg r16))), (ra 4, .inl (kI, 24, .inl (upd q_salt (12 + (q_told 4)).toNatClampNeg r24))), (ra 5, .inl (kI, 24, .inl (upd q_pace (12 + (q_told 4)).toNatClampNeg r34))), (ra 6, .inl (kI, 24, .inl (upd q_mute (12 + (q_told 4)).toNatClampNeg 0))), (ra 7, .inl (kI, 24, .inl q_late)), (ra 1, .inl (kS, 4, .inr (.inr (.inr (.inr q_kinds))))), (m0, .inr (11, oX11 ra y36)), (ra 13, .inl (kI, 700, .inl q_tape))] H := hPa
            have hD : va_D A [(ra 2, .inl (kI, 8, .inl q_told)), (ra 3, .inl (kI, 24, .inl (upd q_kind (12 + (q_told 4)).toNatClampNeg r16))), (ra 4, .inl (kI, 24, .inl (upd q_salt (12 + (q_told 4)).toNatClampNeg r24))), (ra 5, .inl (kI, 24, .inl (upd q_pace (12 + (q_told 4)).toNatClampNeg r34))), (ra 6, .inl (kI, 24, .inl (upd q_mute (12 + (q_told 4)).toNatClampNeg 0))), (ra 7, .inl (kI, 24, .inl q_late)), (ra 1, .inl (kS, 4, .inr (.inr (.inr (.inr q_kinds))))), (m0, .inr (11, oX11 ra y36)), (ra 13, .inl (kI, 700, .inl q_tape))] := hDa
            clear hPa hDa
            refine lv_aload_n hx hb dX11_readRouter_121 rfl (lv_at hl 2 rfl) ?_
            refine va_get (D := (dC, dI)) (ci := 11) (v := .ref (ra 7)) (C := RX11) (T := TX11) (N := 61) hx hb hts hin11 hown hK hP 7 rfl rfl 8 (Nat.le_of_ble_eq_true rfl) hw_7 (fun _ h9 => h9) rfl dX11_readRouter_122 ?_
            refine lv_iload_n hx hb dX11_readRouter_125 rfl (lv_at hl 1 rfl) ?_
            refine lv_aload_n hx hb dX11_readRouter_126 rfl (lv_at hl 2 rfl) ?_
            refine va_ldcS hx hb hown hKL.2.2.2.2.2.2.2.2.2.2.2.2.2.2.2.2.2.2.2.2.2.2 dX11_readRouter_127 ?_
            obtain ⟨hPc, hDc, hFc, hJn⟩ := cl_a (wc := [(m0, .inr (11, oX11 ra y36)), (ra 13, .inl (kI, 700, .inl q_tape))]) (wr := [(ra 2, .inl (kI, 8, .inl q_told)), (ra 3, .inl (kI, 24, .inl (upd q_kind (12 + (q_told 4)).toNatClampNeg r16))), (ra 4, .inl (kI, 24, .inl (upd q_salt (12 + (q_told 4)).toNatClampNeg r24))), (ra 5, .inl (kI, 24, .inl (upd q_pace (12 + (q_told 4)).toNatClampNeg r34))), (ra 6, .inl (kI, 24, .inl (upd q_mute (12 + (q_told 4)).toNatClampNeg 0))), (ra 7, .inl (kI, 24, .inl q_late)), (ra 1, .inl (kS, 4, .inr (.inr (.inr (.inr q_kinds)))))]) hP hD hS hA [7, 8] [0, 1, 2, 3, 4, 5, 6] rfl rfl (by decide +kernel)
            refine va_calli (va_runV (As := [.ref (adK 9)]) (rest := [.int (12 + (q_told 4)), .ref (ra 7)]) ⟨hx, hb, hml, hown, hts⟩ (s11_is l dC dI kB kI kJ kZ kC kS H.size adK adV m0 ra y36 q_tape 9 tT nN (rtr4 tT nN sS) (hq37) (hq_tape) ((by decide)) (hrr43) (hTQ)) (cwV 1 hts gX11_readRouter_X11_is rfl rfl rfl (by decide +kernel) ⟨Nat.le_of_ble_eq_true rfl, Nat.le_of_ble_eq_true rfl⟩) ⟨fun a U g mk q => by obtain ⟨q0, q1, qP, qE, qD, qL⟩ := q; exact ⟨q0, q1, qP, kE_call qE, qD, kL_call qL⟩, va_recv hK hP (ci := 11) (q0 := 7) rfl rfl, fun U hU hW => ⟨rfl, by rw [hU], by rw [hU]; exact hPc, kE_warm hW hE, hDc.weaken (fun _ _ _ _ => trivial), kL_at hKL hS hFc hW hU⟩⟩ rfl rfl hl.1 rfl (lv_room (Nat.le_of_ble_eq_true rfl)) dX11_readRouter_129 ⟨Nat.le_of_ble_eq_true rfl, Nat.le_of_ble_eq_true rfl⟩) hS (fun q _ h => hFc q h) hFc (fun r49 u t H locs ht hvm w50 hB hz1 hk1 hS => ?_)
            obtain ⟨hP1, hD1⟩ := hB
            try dsimp only at w50
            obtain ⟨hPa, hDa⟩ := hJn (w1 := [(m0, .inr (11, oX11 ra y36)), (ra 13, .inl (kI, 700, .inl q_tape))]) hk1 ht hP1 hD1
            clear hP hD hPc hDc hFc hJn hP1 hD1 hk1
            have hP : va_P (dC, dI) vwCl [(ra 2, .inl (kI, 8, .inl q_told)), (ra 3, .inl (kI, 24, .inl (upd q_kind (12 + (q_told 4)).toNatClampNeg r16))), (ra 4, .inl (kI, 24, .inl (upd q_salt (12 + (q_told 4)).toNatClampNeg r24))), (ra 5, .inl (kI, 24, .inl (upd q_pace (12 + (q_told 4)).toNatClampNeg r34))), (ra 6, .inl (kI, 24, .inl (upd q_mute (12 + (q_told 4)).toNatClampNeg 0))), (ra 7, .inl (kI, 24, .inl q_late)), (ra 1, .inl (kS, 4, .inr (.inr (.inr (.inr q_kinds))))), (m0, .inr (11, oX11 ra y36)), (ra 13, .inl (kI, 700, .inl q_tape))] H := hPa
            have hD : va_D A [(ra 2, .inl (kI, 8, .inl q_told)), (ra 3, .inl (kI, 24, .inl (upd q_kind (12 + (q_told 4)).toNatClampNeg r16))), (ra 4, .inl (kI, 24, .inl (upd q_salt (12 + (q_told 4)).toNatClampNeg r24))), (ra 5, .inl (kI, 24, .inl (upd q_pace (12 + (q_told 4)).toNatClampNeg r34))), (ra 6, .inl (kI, 24, .inl (upd q_mute (12 + (q_told 4)).toNatClampNeg 0))), (ra 7, .inl (kI, 24, .inl q_late)), (ra 1, .inl (kS, 4, .inr (.inr (.inr (.inr q_kinds))))), (m0, .inr (11, oX11 ra y36)), (ra 13, .inl (kI, 700, .inl q_tape))] := hDa
            clear hPa hDa
            refine W.widen (k := 0) (n := 0) (Nat.le_of_ble_eq_true rfl) (Nat.le_of_ble_eq_true rfl) ?_
            obtain ⟨w50, b51⟩ := w50
            subst w50
            refine lv_if_eq (tgt := 139) hx hb dX11_readRouter_132 rfl (fun c52 => ?_) (fun c52 => ?_)
            · have b53 : iv 0 0 (wS tT 9 (rtr4 tT nN sS)) := iv_eqL c52 ivk_0
              refine lv_iconst (v := 0) hx hb dX11_readRouter_139 ic_0 ?_
              refine va_iast hx hb hK hP hD hS 5 1 rfl rfl (iv_in b15 (by decide) (by decide)) dX11_readRouter_140 (fun H locs hPa hDa hS => ?_)
              clear hP hD
              have hP : va_P (dC, dI) vwCl [(ra 2, .inl (kI, 8, .inl q_told)), (ra 3, .inl (kI, 24, .inl (upd q_kind (12 + (q_told 4)).toNatClampNeg r16))), (ra 4, .inl (kI, 24, .inl (upd q_salt (12 + (q_told 4)).toNatClampNeg r24))), (ra 5, .inl (kI, 24, .inl (upd q_pace (12 + (q_told 4)).toNatClampNeg r34))), (ra 6, .inl (kI, 24, .inl (upd q_mute (12 + (q_told 4)).toNatClampNeg 0))), (ra 7, .inl (kI, 24, .inl (upd q_late (12 + (q_told 4)).toNatClampNeg 0))), (ra 1, .inl (kS, 4, .inr (.inr (.inr (.inr q_kinds))))), (m0, .inr (11, oX11 ra y36)), (ra 13, .inl (kI, 700, .inl q_tape))] H := hPa
              have hD : va_D A [(ra 2, .inl (kI, 8, .inl q_told)), (ra 3, .inl (kI, 24, .inl (upd q_kind (12 + (q_told 4)).toNatClampNeg r16))), (ra 4, .inl (kI, 24, .inl (upd q_salt (12 + (q_told 4)).toNatClampNeg r24))), (ra 5, .inl (kI, 24, .inl (upd q_pace (12 + (q_told 4)).toNatClampNeg r34))), (ra 6, .inl (kI, 24, .inl (upd q_mute (12 + (q_told 4)).toNatClampNeg 0))), (ra 7, .inl (kI, 24, .inl (upd q_late (12 + (q_told 4)).toNatClampNeg 0))), (ra 1, .inl (kS, 4, .inr (.inr (.inr (.inr q_kinds))))), (m0, .inr (11, oX11 ra y36)), (ra 13, .inl (kI, 700, .inl q_tape))] := hDa
              clear hPa hDa
              refine lv_aload_n hx hb dX11_readRouter_141 rfl (lv_at hl 2 rfl) ?_
              refine va_get (D := (dC, dI)) (ci := 11) (v := .int (y36 8)) (C := RX11) (T := TX11) (N := 61) hx hb hts hin11 hown hK hP 7 rfl rfl 22 (Nat.le_of_ble_eq_true rfl) hw_1 (fun _ h9 => h9) rfl dX11_readRouter_142 ?_
              refine lv_if_ne (tgt := 168) hx hb dX11_readRouter_145 rfl (fun c54 => ?_) (fun c54 => ?_)
              · have b55 : iv 1 5 (y36 8) := iv_neLo c54 (hq37 8 : iv 0 5 (y36 8)) ivk_0 (by decide) (by decide)
                have hrr56 : RRd tT nN y36 (manT tT nN (rtr4 tT nN sS)) := (mq_b hrr43 c54) ▸ hrr43
                refine lv_aload_n hx hb dX11_readRouter_168 rfl (lv_at hl 2 rfl) ?_
                refine va_get (D := (dC, dI)) (ci := 11) (v := .ref (ra 2)) (C := RX11) (T := TX11) (N := 61) hx hb hts hin11 hown hK hP 7 rfl rfl 3 (Nat.le_of_ble_eq_true rfl) hw_0 (fun _ h9 => h9) rfl dX11_readRouter_169 ?_
                refine lv_iconst (v := 4) hx hb dX11_readRouter_172 ic_4 ?_
                refine lv_dup2_11 hx hb dX11_readRouter_173 rfl rfl ?_
                refine va_iald hx hb hK hP 0 1 rfl rfl (vp_in_nI (n := 4) (by decide) (by decide)) dX11_readRouter_174 ?_
                refine W.eq (g2 := F0 m 175 ls [.int (q_told 4), .int 4, .ref (ra 2)]) rfl ?_
                refine lv_iconst (v := 1) hx hb dX11_readRouter_175 ic_1 ?_
                refine lv_iadd hx hb dX11_readRouter_176 ?_
                have b57 : iv 1 12 ((q_told 4) + 1) := iv_add b2 ivk_1 (by decide) (by decide) (by decide) (by decide)
                refine va_iast hx hb hK hP hD hS 0 1 rfl rfl (vp_in_nI (n := 4) (by decide) (by decide)) dX11_readRouter_177 (fun H locs hPa hDa hS => ?_)
                clear hP hD
                have hP : va_P (dC, dI) vwCl [(ra 2, .inl (kI, 8, .inl (upd q_told 4 ((q_told 4) + 1)))), (ra 3, .inl (kI, 24, .inl (upd q_kind (12 + (q_told 4)).toNatClampNeg r16))), (ra 4, .inl (kI, 24, .inl (upd q_salt (12 + (q_told 4)).toNatClampNeg r24))), (ra 5, .inl (kI, 24, .inl (upd q_pace (12 + (q_told 4)).toNatClampNeg r34))), (ra 6, .inl (kI, 24, .inl (upd q_mute (12 + (q_told 4)).toNatClampNeg 0))), (ra 7, .inl (kI, 24, .inl (upd q_late (12 + (q_told 4)).toNatClampNeg 0))), (ra 1, .inl (kS, 4, .inr (.inr (.inr (.inr q_kinds))))), (m0, .inr (11, oX11 ra y36)), (ra 13, .inl (kI, 700, .inl q_tape))] H := hPa
                have hD : va_D A [(ra 2, .inl (kI, 8, .inl (upd q_told 4 ((q_told 4) + 1)))), (ra 3, .inl (kI, 24, .inl (upd q_kind (12 + (q_told 4)).toNatClampNeg r16))), (ra 4, .inl (kI, 24, .inl (upd q_salt (12 + (q_told 4)).toNatClampNeg r24))), (ra 5, .inl (kI, 24, .inl (upd q_pace (12 + (q_told 4)).toNatClampNeg r34))), (ra 6, .inl (kI, 24, .inl (upd q_mute (12 + (q_told 4)).toNatClampNeg 0))), (ra 7, .inl (kI, 24, .inl (upd q_late (12 + (q_told 4)).toNatClampNeg 0))), (ra 1, .inl (kS, 4, .inr (.inr (.inr (.inr q_kinds))))), (m0, .inr (11, oX11 ra y36)), (ra 13, .inl (kI, 700, .inl q_tape))] := hDa
                clear hPa hDa
                have hPD9 := cl_s (wc := [(m0, .inr (11, oX11 ra y36)), (ra 2, .inl (kI, 8, .inl (upd q_told 4 ((q_told 4) + 1)))), (ra 3, .inl (kI, 24, .inl (upd q_kind (12 + (q_told 4)).toNatClampNeg r16))), (ra 4, .inl (kI, 24, .inl (upd q_salt (12 + (q_told 4)).toNatClampNeg r24))), (ra 5, .inl (kI, 24, .inl (upd q_pace (12 + (q_told 4)).toNatClampNeg r34))), (ra 6, .inl (kI, 24, .inl (upd q_mute (12 + (q_told 4)).toNatClampNeg 0))), (ra 7, .inl (kI, 24, .inl (upd q_late (12 + (q_told 4)).toNatClampNeg 0))), (ra 13, .inl (kI, 700, .inl q_tape)), (ra 1, .inl (kS, 4, .inr (.inr (.inr (.inr q_kinds)))))]) hP hD [7, 0, 1, 2, 3, 4, 5, 8, 6] rfl (by decide +kernel)
                have hP9 := hPD9.1
                have hD9 := hPD9.2
                exact W.vret hx hb hr (fun t ht hW => ⟨⟨(), rfl, trivial, y36, upd q_told 4 ((q_told 4) + 1), upd q_kind (12 + (q_told 4)).toNatClampNeg r16, upd q_salt (12 + (q_told 4)).toNatClampNeg r24, upd q_pace (12 + (q_told 4)).toNatClampNeg r34, upd q_mute (12 + (q_told 4)).toNatClampNeg 0, upd q_late (12 + (q_told 4)).toNatClampNeg 0, hq37, (fI_u hq_told (k := 4) ((iv_w b57 (by decide) (by decide)))), (fI_u hq_salt (k := (12 + (q_told 4)).toNatClampNeg) (w25.1)), (show (x0 2).toInt ≤ (y36 2).toInt from by omega), (show y36 3 = x0 3 from hq39.trans (hq29.trans (hq10))), (show ∀ j : Nat, (j : Int) < (q_told 1).toInt → (q_from j).toInt < (q_to j).toInt from hLT), (show ∀ j : Nat, (j : Int) < (q_told 5).toInt → (q_from (20 + j)).toInt < (q_to (20 + j)).toInt from hLD), (show RRd tT nN y36 (rtrS tT nN sS (q_told 4)) from it_f (Q := RRd tT nN y36) c1 (hrr56)), fun w => absurd w c54, low_t (by decide), (show y36 1 = x0 1 from hq41.trans (hq31.trans (hq13))), (show y36 10 = x0 10 from hq42.trans (hq32.trans (hq14))), by rw [ht]; exact hP9, hD9⟩, hS.F ht⟩) hS.2.2 dX11_readRouter_178
              · have b58 : iv 0 0 (y36 8) := iv_eqL c54 ivk_0
                refine lv_aload_n hx hb dX11_readRouter_148 rfl (lv_at hl 2 rfl) ?_
                refine va_get (D := (dC, dI)) (ci := 11) (v := .ref (ra 6)) (C := RX11) (T := TX11) (N := 61) hx hb hts hin11 hown hK hP 7 rfl rfl 7 (Nat.le_of_ble_eq_true rfl) hw_6 (fun _ h9 => h9) rfl dX11_readRouter_149 ?_
                refine lv_iload_n hx hb dX11_readRouter_152 rfl (lv_at hl 1 rfl) ?_
                refine va_iald hx hb hK hP 4 1 rfl rfl (iv_in b15 (by decide) (by decide)) dX11_readRouter_153 ?_
                refine W.eq (g2 := F0 m 154 ls [.int 0]) (by rw [upd_eq]) ?_
                refine lv_aload_n hx hb dX11_readRouter_154 rfl (lv_at hl 2 rfl) ?_
                refine va_get (D := (dC, dI)) (ci := 11) (v := .ref (ra 7)) (C := RX11) (T := TX11) (N := 61) hx hb hts hin11 hown hK hP 7 rfl rfl 8 (Nat.le_of_ble_eq_true rfl) hw_7 (fun _ h9 => h9) rfl dX11_readRouter_155 ?_
                refine lv_iload_n hx hb dX11_readRouter_158 rfl (lv_at hl 1 rfl) ?_
                refine va_iald hx hb hK hP 5 1 rfl rfl (iv_in b15 (by decide) (by decide)) dX11_readRouter_159 ?_
                refine W.eq (g2 := F0 m 160 ls [.int 0, .int 0]) (by rw [upd_eq]) ?_
                refine lv_iadd hx hb dX11_readRouter_160 ?_
                refine lv_topi (fun z59 e60 => ?_)
                obtain rfl : z59 = (0 : Int32) := e60.trans (by decide)
                refine lv_if_le (tgt := 168) hx hb dX11_readRouter_161 rfl (fun _ => ?_) (fun c9 => absurd (by decide) c9)
                have hrr61 : RRd tT nN y36 (manT tT nN (rtr4 tT nN sS)) := (mq_0 hrr43 c54 c47 c52) ▸ hrr43
                refine lv_aload_n hx hb dX11_readRouter_168 rfl (lv_at hl 2 rfl) ?_
                refine va_get (D := (dC, dI)) (ci := 11) (v := .ref (ra 2)) (C := RX11) (T := TX11) (N := 61) hx hb hts hin11 hown hK hP 7 rfl rfl 3 (Nat.le_of_ble_eq_true rfl) hw_0 (fun _ h9 => h9) rfl dX11_readRouter_169 ?_
                refine lv_iconst (v := 4) hx hb dX11_readRouter_172 ic_4 ?_
                refine lv_dup2_11 hx hb dX11_readRouter_173 rfl rfl ?_
                refine va_iald hx hb hK hP 0 1 rfl rfl (vp_in_nI (n := 4) (by decide) (by decide)) dX11_readRouter_174 ?_
                refine W.eq (g2 := F0 m 175 ls [.int (q_told 4), .int 4, .ref (ra 2)]) rfl ?_
                refine lv_iconst (v := 1) hx hb dX11_readRouter_175 ic_1 ?_
                refine lv_iadd hx hb dX11_readRouter_176 ?_
                have b62 : iv 1 12 ((q_told 4) + 1) := iv_add b2 ivk_1 (by decide) (by decide) (by decide) (by decide)
                refine va_iast hx hb hK hP hD hS 0 1 rfl rfl (vp_in_nI (n := 4) (by decide) (by decide)) dX11_readRouter_177 (fun H locs hPa hDa hS => ?_)
                clear hP hD
                have hP : va_P (dC, dI) vwCl [(ra 2, .inl (kI, 8, .inl (upd q_told 4 ((q_told 4) + 1)))), (ra 3, .inl (kI, 24, .inl (upd q_kind (12 + (q_told 4)).toNatClampNeg r16))), (ra 4, .inl (kI, 24, .inl (upd q_salt (12 + (q_told 4)).toNatClampNeg r24))), (ra 5, .inl (kI, 24, .inl (upd q_pace (12 + (q_told 4)).toNatClampNeg r34))), (ra 6, .inl (kI, 24, .inl (upd q_mute (12 + (q_told 4)).toNatClampNeg 0))), (ra 7, .inl (kI, 24, .inl (upd q_late (12 + (q_told 4)).toNatClampNeg 0))), (ra 1, .inl (kS, 4, .inr (.inr (.inr (.inr q_kinds))))), (m0, .inr (11, oX11 ra y36)), (ra 13, .inl (kI, 700, .inl q_tape))] H := hPa
                have hD : va_D A [(ra 2, .inl (kI, 8, .inl (upd q_told 4 ((q_told 4) + 1)))), (ra 3, .inl (kI, 24, .inl (upd q_kind (12 + (q_told 4)).toNatClampNeg r16))), (ra 4, .inl (kI, 24, .inl (upd q_salt (12 + (q_told 4)).toNatClampNeg r24))), (ra 5, .inl (kI, 24, .inl (upd q_pace (12 + (q_told 4)).toNatClampNeg r34))), (ra 6, .inl (kI, 24, .inl (upd q_mute (12 + (q_told 4)).toNatClampNeg 0))), (ra 7, .inl (kI, 24, .inl (upd q_late (12 + (q_told 4)).toNatClampNeg 0))), (ra 1, .inl (kS, 4, .inr (.inr (.inr (.inr q_kinds))))), (m0, .inr (11, oX11 ra y36)), (ra 13, .inl (kI, 700, .inl q_tape))] := hDa
                clear hPa hDa
                have hPD9 := cl_s (wc := [(m0, .inr (11, oX11 ra y36)), (ra 2, .inl (kI, 8, .inl (upd q_told 4 ((q_told 4) + 1)))), (ra 3, .inl (kI, 24, .inl (upd q_kind (12 + (q_told 4)).toNatClampNeg r16))), (ra 4, .inl (kI, 24, .inl (upd q_salt (12 + (q_told 4)).toNatClampNeg r24))), (ra 5, .inl (kI, 24, .inl (upd q_pace (12 + (q_told 4)).toNatClampNeg r34))), (ra 6, .inl (kI, 24, .inl (upd q_mute (12 + (q_told 4)).toNatClampNeg 0))), (ra 7, .inl (kI, 24, .inl (upd q_late (12 + (q_told 4)).toNatClampNeg 0))), (ra 13, .inl (kI, 700, .inl q_tape)), (ra 1, .inl (kS, 4, .inr (.inr (.inr (.inr q_kinds)))))]) hP hD [7, 0, 1, 2, 3, 4, 5, 8, 6] rfl (by decide +kernel)
                have hP9 := hPD9.1
                have hD9 := hPD9.2
                exact W.vret hx hb hr (fun t ht hW => ⟨⟨(), rfl, trivial, y36, upd q_told 4 ((q_told 4) + 1), upd q_kind (12 + (q_told 4)).toNatClampNeg r16, upd q_salt (12 + (q_told 4)).toNatClampNeg r24, upd q_pace (12 + (q_told 4)).toNatClampNeg r34, upd q_mute (12 + (q_told 4)).toNatClampNeg 0, upd q_late (12 + (q_told 4)).toNatClampNeg 0, hq37, (fI_u hq_told (k := 4) ((iv_w b62 (by decide) (by decide)))), (fI_u hq_salt (k := (12 + (q_told 4)).toNatClampNeg) (w25.1)), (show (x0 2).toInt ≤ (y36 2).toInt from by omega), (show y36 3 = x0 3 from hq39.trans (hq29.trans (hq10))), (show ∀ j : Nat, (j : Int) < (q_told 1).toInt → (q_from j).toInt < (q_to j).toInt from hLT), (show ∀ j : Nat, (j : Int) < (q_told 5).toInt → (q_from (20 + j)).toInt < (q_to (20 + j)).toInt from hLD), (show RRd tT nN y36 (rtrS tT nN sS (q_told 4)) from it_f (Q := RRd tT nN y36) c1 (hrr61)), fun _ => ⟨rfl, congrArg (upd q_kind ((12 + (q_told 4)).toNatClampNeg)) ((kq_y hwk c18).2 (ok_next (ok_num (ok_next (ok_num (ok_next (rr_ok hrr43 c54))))))), congrArg (upd q_salt ((12 + (q_told 4)).toNatClampNeg)) (hv2 (ok_next (ok_num (ok_next (rr_ok hrr43 c54))))), congrArg (upd q_pace ((12 + (q_told 4)).toNatClampNeg)) (hv3 (ok_next (rr_ok hrr43 c54))), congrArg (upd q_mute ((12 + (q_told 4)).toNatClampNeg)) c47.symm, congrArg (upd q_late ((12 + (q_told 4)).toNatClampNeg)) c52.symm⟩, low_t (by decide), (show y36 1 = x0 1 from hq41.trans (hq31.trans (hq13))), (show y36 10 = x0 10 from hq42.trans (hq32.trans (hq14))), by rw [ht]; exact hP9, hD9⟩, hS.F ht⟩) hS.2.2 dX11_readRouter_178
            · have b63 : iv 1 1 (wS tT 9 (rtr4 tT nN sS)) := iv_neLo c52 b51 ivk_0 (by decide) (by decide)
              refine lv_iconst (v := 1) hx hb dX11_readRouter_135 ic_1 ?_
              refine lv_goto (tgt := 140) hx hb dX11_readRouter_136 rfl ?_
              refine va_iast hx hb hK hP hD hS 5 1 rfl rfl (iv_in b15 (by decide) (by decide)) dX11_readRouter_140 (fun H locs hPa hDa hS => ?_)
              clear hP hD
              have hP : va_P (dC, dI) vwCl [(ra 2, .inl (kI, 8, .inl q_told)), (ra 3, .inl (kI, 24, .inl (upd q_kind (12 + (q_told 4)).toNatClampNeg r16))), (ra 4, .inl (kI, 24, .inl (upd q_salt (12 + (q_told 4)).toNatClampNeg r24))), (ra 5, .inl (kI, 24, .inl (upd q_pace (12 + (q_told 4)).toNatClampNeg r34))), (ra 6, .inl (kI, 24, .inl (upd q_mute (12 + (q_told 4)).toNatClampNeg 0))), (ra 7, .inl (kI, 24, .inl (upd q_late (12 + (q_told 4)).toNatClampNeg 1))), (ra 1, .inl (kS, 4, .inr (.inr (.inr (.inr q_kinds))))), (m0, .inr (11, oX11 ra y36)), (ra 13, .inl (kI, 700, .inl q_tape))] H := hPa
              have hD : va_D A [(ra 2, .inl (kI, 8, .inl q_told)), (ra 3, .inl (kI, 24, .inl (upd q_kind (12 + (q_told 4)).toNatClampNeg r16))), (ra 4, .inl (kI, 24, .inl (upd q_salt (12 + (q_told 4)).toNatClampNeg r24))), (ra 5, .inl (kI, 24, .inl (upd q_pace (12 + (q_told 4)).toNatClampNeg r34))), (ra 6, .inl (kI, 24, .inl (upd q_mute (12 + (q_told 4)).toNatClampNeg 0))), (ra 7, .inl (kI, 24, .inl (upd q_late (12 + (q_told 4)).toNatClampNeg 1))), (ra 1, .inl (kS, 4, .inr (.inr (.inr (.inr q_kinds))))), (m0, .inr (11, oX11 ra y36)), (ra 13, .inl (kI, 700, .inl q_tape))] := hDa
              clear hPa hDa
              refine lv_aload_n hx hb dX11_readRouter_141 rfl (lv_at hl 2 rfl) ?_
              refine va_get (D := (dC, dI)) (ci := 11) (v := .int (y36 8)) (C := RX11) (T := TX11) (N := 61) hx hb hts hin11 hown hK hP 7 rfl rfl 22 (Nat.le_of_ble_eq_true rfl) hw_1 (fun _ h9 => h9) rfl dX11_readRouter_142 ?_
              refine lv_if_ne (tgt := 168) hx hb dX11_readRouter_145 rfl (fun c64 => ?_) (fun c64 => ?_)
              · have b65 : iv 1 5 (y36 8) := iv_neLo c64 (hq37 8 : iv 0 5 (y36 8)) ivk_0 (by decide) (by decide)
                have hrr66 : RRd tT nN y36 (manT tT nN (rtr4 tT nN sS)) := (mq_b hrr43 c64) ▸ hrr43
                refine lv_aload_n hx hb dX11_readRouter_168 rfl (lv_at hl 2 rfl) ?_
                refine va_get (D := (dC, dI)) (ci := 11) (v := .ref (ra 2)) (C := RX11) (T := TX11) (N := 61) hx hb hts hin11 hown hK hP 7 rfl rfl 3 (Nat.le_of_ble_eq_true rfl) hw_0 (fun _ h9 => h9) rfl dX11_readRouter_169 ?_
                refine lv_iconst (v := 4) hx hb dX11_readRouter_172 ic_4 ?_
                refine lv_dup2_11 hx hb dX11_readRouter_173 rfl rfl ?_
                refine va_iald hx hb hK hP 0 1 rfl rfl (vp_in_nI (n := 4) (by decide) (by decide)) dX11_readRouter_174 ?_
                refine W.eq (g2 := F0 m 175 ls [.int (q_told 4), .int 4, .ref (ra 2)]) rfl ?_
                refine lv_iconst (v := 1) hx hb dX11_readRouter_175 ic_1 ?_
                refine lv_iadd hx hb dX11_readRouter_176 ?_
                have b67 : iv 1 12 ((q_told 4) + 1) := iv_add b2 ivk_1 (by decide) (by decide) (by decide) (by decide)
                refine va_iast hx hb hK hP hD hS 0 1 rfl rfl (vp_in_nI (n := 4) (by decide) (by decide)) dX11_readRouter_177 (fun H locs hPa hDa hS => ?_)
                clear hP hD
                have hP : va_P (dC, dI) vwCl [(ra 2, .inl (kI, 8, .inl (upd q_told 4 ((q_told 4) + 1)))), (ra 3, .inl (kI, 24, .inl (upd q_kind (12 + (q_told 4)).toNatClampNeg r16))), (ra 4, .inl (kI, 24, .inl (upd q_salt (12 + (q_told 4)).toNatClampNeg r24))), (ra 5, .inl (kI, 24, .inl (upd q_pace (12 + (q_told 4)).toNatClampNeg r34))), (ra 6, .inl (kI, 24, .inl (upd q_mute (12 + (q_told 4)).toNatClampNeg 0))), (ra 7, .inl (kI, 24, .inl (upd q_late (12 + (q_told 4)).toNatClampNeg 1))), (ra 1, .inl (kS, 4, .inr (.inr (.inr (.inr q_kinds))))), (m0, .inr (11, oX11 ra y36)), (ra 13, .inl (kI, 700, .inl q_tape))] H := hPa
                have hD : va_D A [(ra 2, .inl (kI, 8, .inl (upd q_told 4 ((q_told 4) + 1)))), (ra 3, .inl (kI, 24, .inl (upd q_kind (12 + (q_told 4)).toNatClampNeg r16))), (ra 4, .inl (kI, 24, .inl (upd q_salt (12 + (q_told 4)).toNatClampNeg r24))), (ra 5, .inl (kI, 24, .inl (upd q_pace (12 + (q_told 4)).toNatClampNeg r34))), (ra 6, .inl (kI, 24, .inl (upd q_mute (12 + (q_told 4)).toNatClampNeg 0))), (ra 7, .inl (kI, 24, .inl (upd q_late (12 + (q_told 4)).toNatClampNeg 1))), (ra 1, .inl (kS, 4, .inr (.inr (.inr (.inr q_kinds))))), (m0, .inr (11, oX11 ra y36)), (ra 13, .inl (kI, 700, .inl q_tape))] := hDa
                clear hPa hDa
                have hPD9 := cl_s (wc := [(m0, .inr (11, oX11 ra y36)), (ra 2, .inl (kI, 8, .inl (upd q_told 4 ((q_told 4) + 1)))), (ra 3, .inl (kI, 24, .inl (upd q_kind (12 + (q_told 4)).toNatClampNeg r16))), (ra 4, .inl (kI, 24, .inl (upd q_salt (12 + (q_told 4)).toNatClampNeg r24))), (ra 5, .inl (kI, 24, .inl (upd q_pace (12 + (q_told 4)).toNatClampNeg r34))), (ra 6, .inl (kI, 24, .inl (upd q_mute (12 + (q_told 4)).toNatClampNeg 0))), (ra 7, .inl (kI, 24, .inl (upd q_late (12 + (q_told 4)).toNatClampNeg 1))), (ra 13, .inl (kI, 700, .inl q_tape)), (ra 1, .inl (kS, 4, .inr (.inr (.inr (.inr q_kinds)))))]) hP hD [7, 0, 1, 2, 3, 4, 5, 8, 6] rfl (by decide +kernel)
                have hP9 := hPD9.1
                have hD9 := hPD9.2
                exact W.vret hx hb hr (fun t ht hW => ⟨⟨(), rfl, trivial, y36, upd q_told 4 ((q_told 4) + 1), upd q_kind (12 + (q_told 4)).toNatClampNeg r16, upd q_salt (12 + (q_told 4)).toNatClampNeg r24, upd q_pace (12 + (q_told 4)).toNatClampNeg r34, upd q_mute (12 + (q_told 4)).toNatClampNeg 0, upd q_late (12 + (q_told 4)).toNatClampNeg 1, hq37, (fI_u hq_told (k := 4) ((iv_w b67 (by decide) (by decide)))), (fI_u hq_salt (k := (12 + (q_told 4)).toNatClampNeg) (w25.1)), (show (x0 2).toInt ≤ (y36 2).toInt from by omega), (show y36 3 = x0 3 from hq39.trans (hq29.trans (hq10))), (show ∀ j : Nat, (j : Int) < (q_told 1).toInt → (q_from j).toInt < (q_to j).toInt from hLT), (show ∀ j : Nat, (j : Int) < (q_told 5).toInt → (q_from (20 + j)).toInt < (q_to (20 + j)).toInt from hLD), (show RRd tT nN y36 (rtrS tT nN sS (q_told 4)) from it_f (Q := RRd tT nN y36) c1 (hrr66)), fun w => absurd w c64, low_t (by decide), (show y36 1 = x0 1 from hq41.trans (hq31.trans (hq13))), (show y36 10 = x0 10 from hq42.trans (hq32.trans (hq14))), by rw [ht]; exact hP9, hD9⟩, hS.F ht⟩) hS.2.2 dX11_readRouter_178
              · have b68 : iv 0 0 (y36 8) := iv_eqL c64 ivk_0
                refine lv_aload_n hx hb dX11_readRouter_148 rfl (lv_at hl 2 rfl) ?_
                refine va_get (D := (dC, dI)) (ci := 11) (v := .ref (ra 6)) (C := RX11) (T := TX11) (N := 61) hx hb hts hin11 hown hK hP 7 rfl rfl 7 (Nat.le_of_ble_eq_true rfl) hw_6 (fun _ h9 => h9) rfl dX11_readRouter_149 ?_
                refine lv_iload_n hx hb dX11_readRouter_152 rfl (lv_at hl 1 rfl) ?_
                refine va_iald hx hb hK hP 4 1 rfl rfl (iv_in b15 (by decide) (by decide)) dX11_readRouter_153 ?_
                refine W.eq (g2 := F0 m 154 ls [.int 0]) (by rw [upd_eq]) ?_
                refine lv_aload_n hx hb dX11_readRouter_154 rfl (lv_at hl 2 rfl) ?_
                refine va_get (D := (dC, dI)) (ci := 11) (v := .ref (ra 7)) (C := RX11) (T := TX11) (N := 61) hx hb hts hin11 hown hK hP 7 rfl rfl 8 (Nat.le_of_ble_eq_true rfl) hw_7 (fun _ h9 => h9) rfl dX11_readRouter_155 ?_
                refine lv_iload_n hx hb dX11_readRouter_158 rfl (lv_at hl 1 rfl) ?_
                refine va_iald hx hb hK hP 5 1 rfl rfl (iv_in b15 (by decide) (by decide)) dX11_readRouter_159 ?_
                refine W.eq (g2 := F0 m 160 ls [.int 1, .int 0]) (by rw [upd_eq]) ?_
                refine lv_iadd hx hb dX11_readRouter_160 ?_
                refine lv_topi (fun z69 e70 => ?_)
                obtain rfl : z69 = (1 : Int32) := e70.trans (by decide)
                refine lv_if_le (tgt := 168) hx hb dX11_readRouter_161 rfl (fun c9 => absurd c9 (by decide)) (fun _ => ?_)
                refine lv_aload_n hx hb dX11_readRouter_164 rfl (lv_at hl 2 rfl) ?_
                obtain ⟨hPc, hDc, hFc, hJn⟩ := cl_a (wc := [(m0, .inr (11, oX11 ra y36)), (ra 13, .inl (kI, 700, .inl q_tape))]) (wr := [(ra 2, .inl (kI, 8, .inl q_told)), (ra 3, .inl (kI, 24, .inl (upd q_kind (12 + (q_told 4)).toNatClampNeg r16))), (ra 4, .inl (kI, 24, .inl (upd q_salt (12 + (q_told 4)).toNatClampNeg r24))), (ra 5, .inl (kI, 24, .inl (upd q_pace (12 + (q_told 4)).toNatClampNeg r34))), (ra 6, .inl (kI, 24, .inl (upd q_mute (12 + (q_told 4)).toNatClampNeg 0))), (ra 7, .inl (kI, 24, .inl (upd q_late (12 + (q_told 4)).toNatClampNeg 1))), (ra 1, .inl (kS, 4, .inr (.inr (.inr (.inr q_kinds)))))]) hP hD hS hA [7, 8] [0, 1, 2, 3, 4, 5, 6] rfl rfl (by decide +kernel)
                refine va_callv (va_runV (As := []) (rest := []) ⟨hx, hb, hml, hown, hts⟩ (s11_stepOn l dC dI kB kI kJ kZ kC kS H.size m0 ra y36 q_tape tT nN (nextT tT nN (rtr4 tT nN sS)) (hq37) (hq_tape) (hrr43.2) (stp_of hrr43) (hTQ)) (cwV 0 hts gX11_readRouter_X11_stepOn rfl rfl rfl (by decide +kernel) ⟨Nat.le_of_ble_eq_true rfl, Nat.le_of_ble_eq_true rfl⟩) ⟨fun a U g mk q => by obtain ⟨q0, q1, qP, qE, qD⟩ := q; exact ⟨q0, q1, qP, kE_call qE, qD⟩, va_recv hK hP (ci := 11) (q0 := 7) rfl rfl, fun U hU hW => ⟨rfl, by rw [hU], by rw [hU]; exact hPc, kE_warm hW hE, hDc.weaken (fun _ _ _ _ => trivial)⟩⟩ rfl rfl hl.1 rfl (lv_room (Nat.le_of_ble_eq_true rfl)) dX11_readRouter_165 ⟨Nat.le_of_ble_eq_true rfl, Nat.le_of_ble_eq_true rfl⟩) hS (fun q _ h => hFc q h) hFc (fun u t H locs ht hvm w72 hB hz1 hk1 hS => ?_)
                obtain ⟨y73, hq74, hq75, hq76, hq77, hq78, hq79, hq80, hP1, hD1⟩ := hB
                try dsimp only at w72
                obtain ⟨hPa, hDa⟩ := hJn (w1 := [(m0, .inr (11, oX11 ra y73)), (ra 13, .inl (kI, 700, .inl q_tape))]) hk1 ht hP1 hD1
                clear hP hD hPc hDc hFc hJn hP1 hD1 hk1
                have hP : va_P (dC, dI) vwCl [(ra 2, .inl (kI, 8, .inl q_told)), (ra 3, .inl (kI, 24, .inl (upd q_kind (12 + (q_told 4)).toNatClampNeg r16))), (ra 4, .inl (kI, 24, .inl (upd q_salt (12 + (q_told 4)).toNatClampNeg r24))), (ra 5, .inl (kI, 24, .inl (upd q_pace (12 + (q_told 4)).toNatClampNeg r34))), (ra 6, .inl (kI, 24, .inl (upd q_mute (12 + (q_told 4)).toNatClampNeg 0))), (ra 7, .inl (kI, 24, .inl (upd q_late (12 + (q_told 4)).toNatClampNeg 1))), (ra 1, .inl (kS, 4, .inr (.inr (.inr (.inr q_kinds))))), (m0, .inr (11, oX11 ra y73)), (ra 13, .inl (kI, 700, .inl q_tape))] H := hPa
                have hD : va_D A [(ra 2, .inl (kI, 8, .inl q_told)), (ra 3, .inl (kI, 24, .inl (upd q_kind (12 + (q_told 4)).toNatClampNeg r16))), (ra 4, .inl (kI, 24, .inl (upd q_salt (12 + (q_told 4)).toNatClampNeg r24))), (ra 5, .inl (kI, 24, .inl (upd q_pace (12 + (q_told 4)).toNatClampNeg r34))), (ra 6, .inl (kI, 24, .inl (upd q_mute (12 + (q_told 4)).toNatClampNeg 0))), (ra 7, .inl (kI, 24, .inl (upd q_late (12 + (q_told 4)).toNatClampNeg 1))), (ra 1, .inl (kS, 4, .inr (.inr (.inr (.inr q_kinds))))), (m0, .inr (11, oX11 ra y73)), (ra 13, .inl (kI, 700, .inl q_tape))] := hDa
                clear hPa hDa
                refine W.widen (k := 0) (n := 0) (Nat.le_of_ble_eq_true rfl) (Nat.le_of_ble_eq_true rfl) ?_
                have hrr81 : RRd tT nN y73 (manT tT nN (rtr4 tT nN sS)) := (mq_s hrr43 c64 (Or.inr c52)) ▸ hq78
                refine lv_aload_n hx hb dX11_readRouter_168 rfl (lv_at hl 2 rfl) ?_
                refine va_get (D := (dC, dI)) (ci := 11) (v := .ref (ra 2)) (C := RX11) (T := TX11) (N := 61) hx hb hts hin11 hown hK hP 7 rfl rfl 3 (Nat.le_of_ble_eq_true rfl) hw_0 (fun _ h9 => h9) rfl dX11_readRouter_169 ?_
                refine lv_iconst (v := 4) hx hb dX11_readRouter_172 ic_4 ?_
                refine lv_dup2_11 hx hb dX11_readRouter_173 rfl rfl ?_
                refine va_iald hx hb hK hP 0 1 rfl rfl (vp_in_nI (n := 4) (by decide) (by decide)) dX11_readRouter_174 ?_
                refine W.eq (g2 := F0 m 175 ls [.int (q_told 4), .int 4, .ref (ra 2)]) rfl ?_
                refine lv_iconst (v := 1) hx hb dX11_readRouter_175 ic_1 ?_
                refine lv_iadd hx hb dX11_readRouter_176 ?_
                have b82 : iv 1 12 ((q_told 4) + 1) := iv_add b2 ivk_1 (by decide) (by decide) (by decide) (by decide)
                refine va_iast hx hb hK hP hD hS 0 1 rfl rfl (vp_in_nI (n := 4) (by decide) (by decide)) dX11_readRouter_177 (fun H locs hPa hDa hS => ?_)
                clear hP hD
                have hP : va_P (dC, dI) vwCl [(ra 2, .inl (kI, 8, .inl (upd q_told 4 ((q_told 4) + 1)))), (ra 3, .inl (kI, 24, .inl (upd q_kind (12 + (q_told 4)).toNatClampNeg r16))), (ra 4, .inl (kI, 24, .inl (upd q_salt (12 + (q_told 4)).toNatClampNeg r24))), (ra 5, .inl (kI, 24, .inl (upd q_pace (12 + (q_told 4)).toNatClampNeg r34))), (ra 6, .inl (kI, 24, .inl (upd q_mute (12 + (q_told 4)).toNatClampNeg 0))), (ra 7, .inl (kI, 24, .inl (upd q_late (12 + (q_told 4)).toNatClampNeg 1))), (ra 1, .inl (kS, 4, .inr (.inr (.inr (.inr q_kinds))))), (m0, .inr (11, oX11 ra y73)), (ra 13, .inl (kI, 700, .inl q_tape))] H := hPa
                have hD : va_D A [(ra 2, .inl (kI, 8, .inl (upd q_told 4 ((q_told 4) + 1)))), (ra 3, .inl (kI, 24, .inl (upd q_kind (12 + (q_told 4)).toNatClampNeg r16))), (ra 4, .inl (kI, 24, .inl (upd q_salt (12 + (q_told 4)).toNatClampNeg r24))), (ra 5, .inl (kI, 24, .inl (upd q_pace (12 + (q_told 4)).toNatClampNeg r34))), (ra 6, .inl (kI, 24, .inl (upd q_mute (12 + (q_told 4)).toNatClampNeg 0))), (ra 7, .inl (kI, 24, .inl (upd q_late (12 + (q_told 4)).toNatClampNeg 1))), (ra 1, .inl (kS, 4, .inr (.inr (.inr (.inr q_kinds))))), (m0, .inr (11, oX11 ra y73)), (ra 13, .inl (kI, 700, .inl q_tape))] := hDa
                clear hPa hDa
                have hPD9 := cl_s (wc := [(m0, .inr (11, oX11 ra y73)), (ra 2, .inl (kI, 8, .inl (upd q_told 4 ((q_told 4) + 1)))), (ra 3, .inl (kI, 24, .inl (upd q_kind (12 + (q_told 4)).toNatClampNeg r16))), (ra 4, .inl (kI, 24, .inl (upd q_salt (12 + (q_told 4)).toNatClampNeg r24))), (ra 5, .inl (kI, 24, .inl (upd q_pace (12 + (q_told 4)).toNatClampNeg r34))), (ra 6, .inl (kI, 24, .inl (upd q_mute (12 + (q_told 4)).toNatClampNeg 0))), (ra 7, .inl (kI, 24, .inl (upd q_late (12 + (q_told 4)).toNatClampNeg 1))), (ra 13, .inl (kI, 700, .inl q_tape)), (ra 1, .inl (kS, 4, .inr (.inr (.inr (.inr q_kinds)))))]) hP hD [7, 0, 1, 2, 3, 4, 5, 8, 6] rfl (by decide +kernel)
                have hP9 := hPD9.1
                have hD9 := hPD9.2
                exact W.vret hx hb hr (fun t ht hW => ⟨⟨(), rfl, trivial, y73, upd q_told 4 ((q_told 4) + 1), upd q_kind (12 + (q_told 4)).toNatClampNeg r16, upd q_salt (12 + (q_told 4)).toNatClampNeg r24, upd q_pace (12 + (q_told 4)).toNatClampNeg r34, upd q_mute (12 + (q_told 4)).toNatClampNeg 0, upd q_late (12 + (q_told 4)).toNatClampNeg 1, hq74, (fI_u hq_told (k := 4) ((iv_w b82 (by decide) (by decide)))), (fI_u hq_salt (k := (12 + (q_told 4)).toNatClampNeg) (w25.1)), (show (x0 2).toInt ≤ (y73 2).toInt from by omega), (show y73 3 = x0 3 from hq76.trans (hq39.trans (hq29.trans (hq10)))), (show ∀ j : Nat, (j : Int) < (q_told 1).toInt → (q_from j).toInt < (q_to j).toInt from hLT), (show ∀ j : Nat, (j : Int) < (q_told 5).toInt → (q_from (20 + j)).toInt < (q_to (20 + j)).toInt from hLD), (show RRd tT nN y73 (rtrS tT nN sS (q_told 4)) from it_f (Q := RRd tT nN y73) c1 (hrr81)), fun _ => ⟨rfl, congrArg (upd q_kind ((12 + (q_told 4)).toNatClampNeg)) ((kq_y hwk c18).2 (ok_next (ok_num (ok_next (ok_num (ok_next (rr_ok hrr43 c64))))))), congrArg (upd q_salt ((12 + (q_told 4)).toNatClampNeg)) (hv2 (ok_next (ok_num (ok_next (rr_ok hrr43 c64))))), congrArg (upd q_pace ((12 + (q_told 4)).toNatClampNeg)) (hv3 (ok_next (rr_ok hrr43 c64))), congrArg (upd q_mute ((12 + (q_told 4)).toNatClampNeg)) c47.symm, congrArg (upd q_late ((12 + (q_told 4)).toNatClampNeg)) (wS_1 c52)⟩, low_t (by decide), (show y73 1 = x0 1 from hq79.trans (hq41.trans (hq31.trans (hq13)))), (show y73 10 = x0 10 from hq80.trans (hq42.trans (hq32.trans (hq14)))), by rw [ht]; exact hP9, hD9⟩, hS.F ht⟩) hS.2.2 dX11_readRouter_178
          · have b83 : iv 1 1 (wS tT 8 (rtr4 tT nN sS)) := iv_neLo c47 b46 ivk_0 (by decide) (by decide)
            refine lv_iconst (v := 1) hx hb dX11_readRouter_115 ic_1 ?_
            refine lv_goto (tgt := 120) hx hb dX11_readRouter_116 rfl ?_
            refine va_iast hx hb hK hP hD hS 4 1 rfl rfl (iv_in b15 (by decide) (by decide)) dX11_readRouter_120 (fun H locs hPa hDa hS => ?_)
            clear hP hD
            have hP : va_P (dC, dI) vwCl [(ra 2, .inl (kI, 8, .inl q_told)), (ra 3, .inl (kI, 24, .inl (upd q_kind (12 + (q_told 4)).toNatClampNeg r16))), (ra 4, .inl (kI, 24, .inl (upd q_salt (12 + (q_told 4)).toNatClampNeg r24))), (ra 5, .inl (kI, 24, .inl (upd q_pace (12 + (q_told 4)).toNatClampNeg r34))), (ra 6, .inl (kI, 24, .inl (upd q_mute (12 + (q_told 4)).toNatClampNeg 1))), (ra 7, .inl (kI, 24, .inl q_late)), (ra 1, .inl (kS, 4, .inr (.inr (.inr (.inr q_kinds))))), (m0, .inr (11, oX11 ra y36)), (ra 13, .inl (kI, 700, .inl q_tape))] H := hPa
            have hD : va_D A [(ra 2, .inl (kI, 8, .inl q_told)), (ra 3, .inl (kI, 24, .inl (upd q_kind (12 + (q_told 4)).toNatClampNeg r16))), (ra 4, .inl (kI, 24, .inl (upd q_salt (12 + (q_told 4)).toNatClampNeg r24))), (ra 5, .inl (kI, 24, .inl (upd q_pace (12 + (q_told 4)).toNatClampNeg r34))), (ra 6, .inl (kI, 24, .inl (upd q_mute (12 + (q_told 4)).toNatClampNeg 1))), (ra 7, .inl (kI, 24, .inl q_late)), (ra 1, .inl (kS, 4, .inr (.inr (.inr (.inr q_kinds))))), (m0, .inr (11, oX11 ra y36)), (ra 13, .inl (kI, 700, .inl q_tape))] := hDa
            clear hPa hDa
            refine lv_aload_n hx hb dX11_readRouter_121 rfl (lv_at hl 2 rfl) ?_
            refine va_get (D := (dC, dI)) (ci := 11) (v := .ref (ra 7)) (C := RX11) (T := TX11) (N := 61) hx hb hts hin11 hown hK hP 7 rfl rfl 8 (Nat.le_of_ble_eq_true rfl) hw_7 (fun _ h9 => h9) rfl dX11_readRouter_122 ?_
            refine lv_iload_n hx hb dX11_readRouter_125 rfl (lv_at hl 1 rfl) ?_
            refine lv_aload_n hx hb dX11_readRouter_126 rfl (lv_at hl 2 rfl) ?_
            refine va_ldcS hx hb hown hKL.2.2.2.2.2.2.2.2.2.2.2.2.2.2.2.2.2.2.2.2.2.2 dX11_readRouter_127 ?_
            obtain ⟨hPc, hDc, hFc, hJn⟩ := cl_a (wc := [(m0, .inr (11, oX11 ra y36)), (ra 13, .inl (kI, 700, .inl q_tape))]) (wr := [(ra 2, .inl (kI, 8, .inl q_told)), (ra 3, .inl (kI, 24, .inl (upd q_kind (12 + (q_told 4)).toNatClampNeg r16))), (ra 4, .inl (kI, 24, .inl (upd q_salt (12 + (q_told 4)).toNatClampNeg r24))), (ra 5, .inl (kI, 24, .inl (upd q_pace (12 + (q_told 4)).toNatClampNeg r34))), (ra 6, .inl (kI, 24, .inl (upd q_mute (12 + (q_told 4)).toNatClampNeg 1))), (ra 7, .inl (kI, 24, .inl q_late)), (ra 1, .inl (kS, 4, .inr (.inr (.inr (.inr q_kinds)))))]) hP hD hS hA [7, 8] [0, 1, 2, 3, 4, 5, 6] rfl rfl (by decide +kernel)
            refine va_calli (va_runV (As := [.ref (adK 9)]) (rest := [.int (12 + (q_told 4)), .ref (ra 7)]) ⟨hx, hb, hml, hown, hts⟩ (s11_is l dC dI kB kI kJ kZ kC kS H.size adK adV m0 ra y36 q_tape 9 tT nN (rtr4 tT nN sS) (hq37) (hq_tape) ((by decide)) (hrr43) (hTQ)) (cwV 1 hts gX11_readRouter_X11_is rfl rfl rfl (by decide +kernel) ⟨Nat.le_of_ble_eq_true rfl, Nat.le_of_ble_eq_true rfl⟩) ⟨fun a U g mk q => by obtain ⟨q0, q1, qP, qE, qD, qL⟩ := q; exact ⟨q0, q1, qP, kE_call qE, qD, kL_call qL⟩, va_recv hK hP (ci := 11) (q0 := 7) rfl rfl, fun U hU hW => ⟨rfl, by rw [hU], by rw [hU]; exact hPc, kE_warm hW hE, hDc.weaken (fun _ _ _ _ => trivial), kL_at hKL hS hFc hW hU⟩⟩ rfl rfl hl.1 rfl (lv_room (Nat.le_of_ble_eq_true rfl)) dX11_readRouter_129 ⟨Nat.le_of_ble_eq_true rfl, Nat.le_of_ble_eq_true rfl⟩) hS (fun q _ h => hFc q h) hFc (fun r84 u t H locs ht hvm w85 hB hz1 hk1 hS => ?_)
            obtain ⟨hP1, hD1⟩ := hB
            try dsimp only at w85
            obtain ⟨hPa, hDa⟩ := hJn (w1 := [(m0, .inr (11, oX11 ra y36)), (ra 13, .inl (kI, 700, .inl q_tape))]) hk1 ht hP1 hD1
            clear hP hD hPc hDc hFc hJn hP1 hD1 hk1
            have hP : va_P (dC, dI) vwCl [(ra 2, .inl (kI, 8, .inl q_told)), (ra 3, .inl (kI, 24, .inl (upd q_kind (12 + (q_told 4)).toNatClampNeg r16))), (ra 4, .inl (kI, 24, .inl (upd q_salt (12 + (q_told 4)).toNatClampNeg r24))), (ra 5, .inl (kI, 24, .inl (upd q_pace (12 + (q_told 4)).toNatClampNeg r34))), (ra 6, .inl (kI, 24, .inl (upd q_mute (12 + (q_told 4)).toNatClampNeg 1))), (ra 7, .inl (kI, 24, .inl q_late)), (ra 1, .inl (kS, 4, .inr (.inr (.inr (.inr q_kinds))))), (m0, .inr (11, oX11 ra y36)), (ra 13, .inl (kI, 700, .inl q_tape))] H := hPa
            have hD : va_D A [(ra 2, .inl (kI, 8, .inl q_told)), (ra 3, .inl (kI, 24, .inl (upd q_kind (12 + (q_told 4)).toNatClampNeg r16))), (ra 4, .inl (kI, 24, .inl (upd q_salt (12 + (q_told 4)).toNatClampNeg r24))), (ra 5, .inl (kI, 24, .inl (upd q_pace (12 + (q_told 4)).toNatClampNeg r34))), (ra 6, .inl (kI, 24, .inl (upd q_mute (12 + (q_told 4)).toNatClampNeg 1))), (ra 7, .inl (kI, 24, .inl q_late)), (ra 1, .inl (kS, 4, .inr (.inr (.inr (.inr q_kinds))))), (m0, .inr (11, oX11 ra y36)), (ra 13, .inl (kI, 700, .inl q_tape))] := hDa
            clear hPa hDa
            refine W.widen (k := 0) (n := 0) (Nat.le_of_ble_eq_true rfl) (Nat.le_of_ble_eq_true rfl) ?_
            obtain ⟨w85, b86⟩ := w85
            subst w85
            refine lv_if_eq (tgt := 139) hx hb dX11_readRouter_132 rfl (fun c87 => ?_) (fun c87 => ?_)
            · have b88 : iv 0 0 (wS tT 9 (rtr4 tT nN sS)) := iv_eqL c87 ivk_0
              refine lv_iconst (v := 0) hx hb dX11_readRouter_139 ic_0 ?_
              refine va_iast hx hb hK hP hD hS 5 1 rfl rfl (iv_in b15 (by decide) (by decide)) dX11_readRouter_140 (fun H locs hPa hDa hS => ?_)
              clear hP hD
              have hP : va_P (dC, dI) vwCl [(ra 2, .inl (kI, 8, .inl q_told)), (ra 3, .inl (kI, 24, .inl (upd q_kind (12 + (q_told 4)).toNatClampNeg r16))), (ra 4, .inl (kI, 24, .inl (upd q_salt (12 + (q_told 4)).toNatClampNeg r24))), (ra 5, .inl (kI, 24, .inl (upd q_pace (12 + (q_told 4)).toNatClampNeg r34))), (ra 6, .inl (kI, 24, .inl (upd q_mute (12 + (q_told 4)).toNatClampNeg 1))), (ra 7, .inl (kI, 24, .inl (upd q_late (12 + (q_told 4)).toNatClampNeg 0))), (ra 1, .inl (kS, 4, .inr (.inr (.inr (.inr q_kinds))))), (m0, .inr (11, oX11 ra y36)), (ra 13, .inl (kI, 700, .inl q_tape))] H := hPa
              have hD : va_D A [(ra 2, .inl (kI, 8, .inl q_told)), (ra 3, .inl (kI, 24, .inl (upd q_kind (12 + (q_told 4)).toNatClampNeg r16))), (ra 4, .inl (kI, 24, .inl (upd q_salt (12 + (q_told 4)).toNatClampNeg r24))), (ra 5, .inl (kI, 24, .inl (upd q_pace (12 + (q_told 4)).toNatClampNeg r34))), (ra 6, .inl (kI, 24, .inl (upd q_mute (12 + (q_told 4)).toNatClampNeg 1))), (ra 7, .inl (kI, 24, .inl (upd q_late (12 + (q_told 4)).toNatClampNeg 0))), (ra 1, .inl (kS, 4, .inr (.inr (.inr (.inr q_kinds))))), (m0, .inr (11, oX11 ra y36)), (ra 13, .inl (kI, 700, .inl q_tape))] := hDa
              clear hPa hDa
              refine lv_aload_n hx hb dX11_readRouter_141 rfl (lv_at hl 2 rfl) ?_
              refine va_get (D := (dC, dI)) (ci := 11) (v := .int (y36 8)) (C := RX11) (T := TX11) (N := 61) hx hb hts hin11 hown hK hP 7 rfl rfl 22 (Nat.le_of_ble_eq_true rfl) hw_1 (fun _ h9 => h9) rfl dX11_readRouter_142 ?_
              refine lv_if_ne (tgt := 168) hx hb dX11_readRouter_145 rfl (fun c89 => ?_) (fun c89 => ?_)
              · have b90 : iv 1 5 (y36 8) := iv_neLo c89 (hq37 8 : iv 0 5 (y36 8)) ivk_0 (by decide) (by decide)
                have hrr91 : RRd tT nN y36 (manT tT nN (rtr4 tT nN sS)) := (mq_b hrr43 c89) ▸ hrr43
                refine lv_aload_n hx hb dX11_readRouter_168 rfl (lv_at hl 2 rfl) ?_
                refine va_get (D := (dC, dI)) (ci := 11) (v := .ref (ra 2)) (C := RX11) (T := TX11) (N := 61) hx hb hts hin11 hown hK hP 7 rfl rfl 3 (Nat.le_of_ble_eq_true rfl) hw_0 (fun _ h9 => h9) rfl dX11_readRouter_169 ?_
                refine lv_iconst (v := 4) hx hb dX11_readRouter_172 ic_4 ?_
                refine lv_dup2_11 hx hb dX11_readRouter_173 rfl rfl ?_
                refine va_iald hx hb hK hP 0 1 rfl rfl (vp_in_nI (n := 4) (by decide) (by decide)) dX11_readRouter_174 ?_
                refine W.eq (g2 := F0 m 175 ls [.int (q_told 4), .int 4, .ref (ra 2)]) rfl ?_
                refine lv_iconst (v := 1) hx hb dX11_readRouter_175 ic_1 ?_
                refine lv_iadd hx hb dX11_readRouter_176 ?_
                have b92 : iv 1 12 ((q_told 4) + 1) := iv_add b2 ivk_1 (by decide) (by decide) (by decide) (by decide)
                refine va_iast hx hb hK hP hD hS 0 1 rfl rfl (vp_in_nI (n := 4) (by decide) (by decide)) dX11_readRouter_177 (fun H locs hPa hDa hS => ?_)
                clear hP hD
                have hP : va_P (dC, dI) vwCl [(ra 2, .inl (kI, 8, .inl (upd q_told 4 ((q_told 4) + 1)))), (ra 3, .inl (kI, 24, .inl (upd q_kind (12 + (q_told 4)).toNatClampNeg r16))), (ra 4, .inl (kI, 24, .inl (upd q_salt (12 + (q_told 4)).toNatClampNeg r24))), (ra 5, .inl (kI, 24, .inl (upd q_pace (12 + (q_told 4)).toNatClampNeg r34))), (ra 6, .inl (kI, 24, .inl (upd q_mute (12 + (q_told 4)).toNatClampNeg 1))), (ra 7, .inl (kI, 24, .inl (upd q_late (12 + (q_told 4)).toNatClampNeg 0))), (ra 1, .inl (kS, 4, .inr (.inr (.inr (.inr q_kinds))))), (m0, .inr (11, oX11 ra y36)), (ra 13, .inl (kI, 700, .inl q_tape))] H := hPa
                have hD : va_D A [(ra 2, .inl (kI, 8, .inl (upd q_told 4 ((q_told 4) + 1)))), (ra 3, .inl (kI, 24, .inl (upd q_kind (12 + (q_told 4)).toNatClampNeg r16))), (ra 4, .inl (kI, 24, .inl (upd q_salt (12 + (q_told 4)).toNatClampNeg r24))), (ra 5, .inl (kI, 24, .inl (upd q_pace (12 + (q_told 4)).toNatClampNeg r34))), (ra 6, .inl (kI, 24, .inl (upd q_mute (12 + (q_told 4)).toNatClampNeg 1))), (ra 7, .inl (kI, 24, .inl (upd q_late (12 + (q_told 4)).toNatClampNeg 0))), (ra 1, .inl (kS, 4, .inr (.inr (.inr (.inr q_kinds))))), (m0, .inr (11, oX11 ra y36)), (ra 13, .inl (kI, 700, .inl q_tape))] := hDa
                clear hPa hDa
                have hPD9 := cl_s (wc := [(m0, .inr (11, oX11 ra y36)), (ra 2, .inl (kI, 8, .inl (upd q_told 4 ((q_told 4) + 1)))), (ra 3, .inl (kI, 24, .inl (upd q_kind (12 + (q_told 4)).toNatClampNeg r16))), (ra 4, .inl (kI, 24, .inl (upd q_salt (12 + (q_told 4)).toNatClampNeg r24))), (ra 5, .inl (kI, 24, .inl (upd q_pace (12 + (q_told 4)).toNatClampNeg r34))), (ra 6, .inl (kI, 24, .inl (upd q_mute (12 + (q_told 4)).toNatClampNeg 1))), (ra 7, .inl (kI, 24, .inl (upd q_late (12 + (q_told 4)).toNatClampNeg 0))), (ra 13, .inl (kI, 700, .inl q_tape)), (ra 1, .inl (kS, 4, .inr (.inr (.inr (.inr q_kinds)))))]) hP hD [7, 0, 1, 2, 3, 4, 5, 8, 6] rfl (by decide +kernel)
                have hP9 := hPD9.1
                have hD9 := hPD9.2
                exact W.vret hx hb hr (fun t ht hW => ⟨⟨(), rfl, trivial, y36, upd q_told 4 ((q_told 4) + 1), upd q_kind (12 + (q_told 4)).toNatClampNeg r16, upd q_salt (12 + (q_told 4)).toNatClampNeg r24, upd q_pace (12 + (q_told 4)).toNatClampNeg r34, upd q_mute (12 + (q_told 4)).toNatClampNeg 1, upd q_late (12 + (q_told 4)).toNatClampNeg 0, hq37, (fI_u hq_told (k := 4) ((iv_w b92 (by decide) (by decide)))), (fI_u hq_salt (k := (12 + (q_told 4)).toNatClampNeg) (w25.1)), (show (x0 2).toInt ≤ (y36 2).toInt from by omega), (show y36 3 = x0 3 from hq39.trans (hq29.trans (hq10))), (show ∀ j : Nat, (j : Int) < (q_told 1).toInt → (q_from j).toInt < (q_to j).toInt from hLT), (show ∀ j : Nat, (j : Int) < (q_told 5).toInt → (q_from (20 + j)).toInt < (q_to (20 + j)).toInt from hLD), (show RRd tT nN y36 (rtrS tT nN sS (q_told 4)) from it_f (Q := RRd tT nN y36) c1 (hrr91)), fun w => absurd w c89, low_t (by decide), (show y36 1 = x0 1 from hq41.trans (hq31.trans (hq13))), (show y36 10 = x0 10 from hq42.trans (hq32.trans (hq14))), by rw [ht]; exact hP9, hD9⟩, hS.F ht⟩) hS.2.2 dX11_readRouter_178
              · have b93 : iv 0 0 (y36 8) := iv_eqL c89 ivk_0
                refine lv_aload_n hx hb dX11_readRouter_148 rfl (lv_at hl 2 rfl) ?_
                refine va_get (D := (dC, dI)) (ci := 11) (v := .ref (ra 6)) (C := RX11) (T := TX11) (N := 61) hx hb hts hin11 hown hK hP 7 rfl rfl 7 (Nat.le_of_ble_eq_true rfl) hw_6 (fun _ h9 => h9) rfl dX11_readRouter_149 ?_
                refine lv_iload_n hx hb dX11_readRouter_152 rfl (lv_at hl 1 rfl) ?_
                refine va_iald hx hb hK hP 4 1 rfl rfl (iv_in b15 (by decide) (by decide)) dX11_readRouter_153 ?_
                refine W.eq (g2 := F0 m 154 ls [.int 1]) (by rw [upd_eq]) ?_
                refine lv_aload_n hx hb dX11_readRouter_154 rfl (lv_at hl 2 rfl) ?_
                refine va_get (D := (dC, dI)) (ci := 11) (v := .ref (ra 7)) (C := RX11) (T := TX11) (N := 61) hx hb hts hin11 hown hK hP 7 rfl rfl 8 (Nat.le_of_ble_eq_true rfl) hw_7 (fun _ h9 => h9) rfl dX11_readRouter_155 ?_
                refine lv_iload_n hx hb dX11_readRouter_158 rfl (lv_at hl 1 rfl) ?_
                refine va_iald hx hb hK hP 5 1 rfl rfl (iv_in b15 (by decide) (by decide)) dX11_readRouter_159 ?_
                refine W.eq (g2 := F0 m 160 ls [.int 0, .int 1]) (by rw [upd_eq]) ?_
                refine lv_iadd hx hb dX11_readRouter_160 ?_
                refine lv_topi (fun z94 e95 => ?_)
                obtain rfl : z94 = (1 : Int32) := e95.trans (by decide)
                refine lv_if_le (tgt := 168) hx hb dX11_readRouter_161 rfl (fun c9 => absurd c9 (by decide)) (fun _ => ?_)
                refine lv_aload_n hx hb dX11_readRouter_164 rfl (lv_at hl 2 rfl) ?_
                obtain ⟨hPc, hDc, hFc, hJn⟩ := cl_a (wc := [(m0, .inr (11, oX11 ra y36)), (ra 13, .inl (kI, 700, .inl q_tape))]) (wr := [(ra 2, .inl (kI, 8, .inl q_told)), (ra 3, .inl (kI, 24, .inl (upd q_kind (12 + (q_told 4)).toNatClampNeg r16))), (ra 4, .inl (kI, 24, .inl (upd q_salt (12 + (q_told 4)).toNatClampNeg r24))), (ra 5, .inl (kI, 24, .inl (upd q_pace (12 + (q_told 4)).toNatClampNeg r34))), (ra 6, .inl (kI, 24, .inl (upd q_mute (12 + (q_told 4)).toNatClampNeg 1))), (ra 7, .inl (kI, 24, .inl (upd q_late (12 + (q_told 4)).toNatClampNeg 0))), (ra 1, .inl (kS, 4, .inr (.inr (.inr (.inr q_kinds)))))]) hP hD hS hA [7, 8] [0, 1, 2, 3, 4, 5, 6] rfl rfl (by decide +kernel)
                refine va_callv (va_runV (As := []) (rest := []) ⟨hx, hb, hml, hown, hts⟩ (s11_stepOn l dC dI kB kI kJ kZ kC kS H.size m0 ra y36 q_tape tT nN (nextT tT nN (rtr4 tT nN sS)) (hq37) (hq_tape) (hrr43.2) (stp_of hrr43) (hTQ)) (cwV 0 hts gX11_readRouter_X11_stepOn rfl rfl rfl (by decide +kernel) ⟨Nat.le_of_ble_eq_true rfl, Nat.le_of_ble_eq_true rfl⟩) ⟨fun a U g mk q => by obtain ⟨q0, q1, qP, qE, qD⟩ := q; exact ⟨q0, q1, qP, kE_call qE, qD⟩, va_recv hK hP (ci := 11) (q0 := 7) rfl rfl, fun U hU hW => ⟨rfl, by rw [hU], by rw [hU]; exact hPc, kE_warm hW hE, hDc.weaken (fun _ _ _ _ => trivial)⟩⟩ rfl rfl hl.1 rfl (lv_room (Nat.le_of_ble_eq_true rfl)) dX11_readRouter_165 ⟨Nat.le_of_ble_eq_true rfl, Nat.le_of_ble_eq_true rfl⟩) hS (fun q _ h => hFc q h) hFc (fun u t H locs ht hvm w97 hB hz1 hk1 hS => ?_)
                obtain ⟨y98, hq99, hq100, hq101, hq102, hq103, hq104, hq105, hP1, hD1⟩ := hB
                try dsimp only at w97
                obtain ⟨hPa, hDa⟩ := hJn (w1 := [(m0, .inr (11, oX11 ra y98)), (ra 13, .inl (kI, 700, .inl q_tape))]) hk1 ht hP1 hD1
                clear hP hD hPc hDc hFc hJn hP1 hD1 hk1
                have hP : va_P (dC, dI) vwCl [(ra 2, .inl (kI, 8, .inl q_told)), (ra 3, .inl (kI, 24, .inl (upd q_kind (12 + (q_told 4)).toNatClampNeg r16))), (ra 4, .inl (kI, 24, .inl (upd q_salt (12 + (q_told 4)).toNatClampNeg r24))), (ra 5, .inl (kI, 24, .inl (upd q_pace (12 + (q_told 4)).toNatClampNeg r34))), (ra 6, .inl (kI, 24, .inl (upd q_mute (12 + (q_told 4)).toNatClampNeg 1))), (ra 7, .inl (kI, 24, .inl (upd q_late (12 + (q_told 4)).toNatClampNeg 0))), (ra 1, .inl (kS, 4, .inr (.inr (.inr (.inr q_kinds))))), (m0, .inr (11, oX11 ra y98)), (ra 13, .inl (kI, 700, .inl q_tape))] H := hPa
                have hD : va_D A [(ra 2, .inl (kI, 8, .inl q_told)), (ra 3, .inl (kI, 24, .inl (upd q_kind (12 + (q_told 4)).toNatClampNeg r16))), (ra 4, .inl (kI, 24, .inl (upd q_salt (12 + (q_told 4)).toNatClampNeg r24))), (ra 5, .inl (kI, 24, .inl (upd q_pace (12 + (q_told 4)).toNatClampNeg r34))), (ra 6, .inl (kI, 24, .inl (upd q_mute (12 + (q_told 4)).toNatClampNeg 1))), (ra 7, .inl (kI, 24, .inl (upd q_late (12 + (q_told 4)).toNatClampNeg 0))), (ra 1, .inl (kS, 4, .inr (.inr (.inr (.inr q_kinds))))), (m0, .inr (11, oX11 ra y98)), (ra 13, .inl (kI, 700, .inl q_tape))] := hDa
                clear hPa hDa
                refine W.widen (k := 0) (n := 0) (Nat.le_of_ble_eq_true rfl) (Nat.le_of_ble_eq_true rfl) ?_
                have hrr106 : RRd tT nN y98 (manT tT nN (rtr4 tT nN sS)) := (mq_s hrr43 c89 (Or.inl c47)) ▸ hq103
                refine lv_aload_n hx hb dX11_readRouter_168 rfl (lv_at hl 2 rfl) ?_
                refine va_get (D := (dC, dI)) (ci := 11) (v := .ref (ra 2)) (C := RX11) (T := TX11) (N := 61) hx hb hts hin11 hown hK hP 7 rfl rfl 3 (Nat.le_of_ble_eq_true rfl) hw_0 (fun _ h9 => h9) rfl dX11_readRouter_169 ?_
                refine lv_iconst (v := 4) hx hb dX11_readRouter_172 ic_4 ?_
                refine lv_dup2_11 hx hb dX11_readRouter_173 rfl rfl ?_
                refine va_iald hx hb hK hP 0 1 rfl rfl (vp_in_nI (n := 4) (by decide) (by decide)) dX11_readRouter_174 ?_
                refine W.eq (g2 := F0 m 175 ls [.int (q_told 4), .int 4, .ref (ra 2)]) rfl ?_
                refine lv_iconst (v := 1) hx hb dX11_readRouter_175 ic_1 ?_
                refine lv_iadd hx hb dX11_readRouter_176 ?_
                have b107 : iv 1 12 ((q_told 4) + 1) := iv_add b2 ivk_1 (by decide) (by decide) (by decide) (by decide)
                refine va_iast hx hb hK hP hD hS 0 1 rfl rfl (vp_in_nI (n := 4) (by decide) (by decide)) dX11_readRouter_177 (fun H locs hPa hDa hS => ?_)
                clear hP hD
                have hP : va_P (dC, dI) vwCl [(ra 2, .inl (kI, 8, .inl (upd q_told 4 ((q_told 4) + 1)))), (ra 3, .inl (kI, 24, .inl (upd q_kind (12 + (q_told 4)).toNatClampNeg r16))), (ra 4, .inl (kI, 24, .inl (upd q_salt (12 + (q_told 4)).toNatClampNeg r24))), (ra 5, .inl (kI, 24, .inl (upd q_pace (12 + (q_told 4)).toNatClampNeg r34))), (ra 6, .inl (kI, 24, .inl (upd q_mute (12 + (q_told 4)).toNatClampNeg 1))), (ra 7, .inl (kI, 24, .inl (upd q_late (12 + (q_told 4)).toNatClampNeg 0))), (ra 1, .inl (kS, 4, .inr (.inr (.inr (.inr q_kinds))))), (m0, .inr (11, oX11 ra y98)), (ra 13, .inl (kI, 700, .inl q_tape))] H := hPa
                have hD : va_D A [(ra 2, .inl (kI, 8, .inl (upd q_told 4 ((q_told 4) + 1)))), (ra 3, .inl (kI, 24, .inl (upd q_kind (12 + (q_told 4)).toNatClampNeg r16))), (ra 4, .inl (kI, 24, .inl (upd q_salt (12 + (q_told 4)).toNatClampNeg r24))), (ra 5, .inl (kI, 24, .inl (upd q_pace (12 + (q_told 4)).toNatClampNeg r34))), (ra 6, .inl (kI, 24, .inl (upd q_mute (12 + (q_told 4)).toNatClampNeg 1))), (ra 7, .inl (kI, 24, .inl (upd q_late (12 + (q_told 4)).toNatClampNeg 0))), (ra 1, .inl (kS, 4, .inr (.inr (.inr (.inr q_kinds))))), (m0, .inr (11, oX11 ra y98)), (ra 13, .inl (kI, 700, .inl q_tape))] := hDa
                clear hPa hDa
                have hPD9 := cl_s (wc := [(m0, .inr (11, oX11 ra y98)), (ra 2, .inl (kI, 8, .inl (upd q_told 4 ((q_told 4) + 1)))), (ra 3, .inl (kI, 24, .inl (upd q_kind (12 + (q_told 4)).toNatClampNeg r16))), (ra 4, .inl (kI, 24, .inl (upd q_salt (12 + (q_told 4)).toNatClampNeg r24))), (ra 5, .inl (kI, 24, .inl (upd q_pace (12 + (q_told 4)).toNatClampNeg r34))), (ra 6, .inl (kI, 24, .inl (upd q_mute (12 + (q_told 4)).toNatClampNeg 1))), (ra 7, .inl (kI, 24, .inl (upd q_late (12 + (q_told 4)).toNatClampNeg 0))), (ra 13, .inl (kI, 700, .inl q_tape)), (ra 1, .inl (kS, 4, .inr (.inr (.inr (.inr q_kinds)))))]) hP hD [7, 0, 1, 2, 3, 4, 5, 8, 6] rfl (by decide +kernel)
                have hP9 := hPD9.1
                have hD9 := hPD9.2
                exact W.vret hx hb hr (fun t ht hW => ⟨⟨(), rfl, trivial, y98, upd q_told 4 ((q_told 4) + 1), upd q_kind (12 + (q_told 4)).toNatClampNeg r16, upd q_salt (12 + (q_told 4)).toNatClampNeg r24, upd q_pace (12 + (q_told 4)).toNatClampNeg r34, upd q_mute (12 + (q_told 4)).toNatClampNeg 1, upd q_late (12 + (q_told 4)).toNatClampNeg 0, hq99, (fI_u hq_told (k := 4) ((iv_w b107 (by decide) (by decide)))), (fI_u hq_salt (k := (12 + (q_told 4)).toNatClampNeg) (w25.1)), (show (x0 2).toInt ≤ (y98 2).toInt from by omega), (show y98 3 = x0 3 from hq101.trans (hq39.trans (hq29.trans (hq10)))), (show ∀ j : Nat, (j : Int) < (q_told 1).toInt → (q_from j).toInt < (q_to j).toInt from hLT), (show ∀ j : Nat, (j : Int) < (q_told 5).toInt → (q_from (20 + j)).toInt < (q_to (20 + j)).toInt from hLD), (show RRd tT nN y98 (rtrS tT nN sS (q_told 4)) from it_f (Q := RRd tT nN y98) c1 (hrr106)), fun _ => ⟨rfl, congrArg (upd q_kind ((12 + (q_told 4)).toNatClampNeg)) ((kq_y hwk c18).2 (ok_next (ok_num (ok_next (ok_num (ok_next (rr_ok hrr43 c89))))))), congrArg (upd q_salt ((12 + (q_told 4)).toNatClampNeg)) (hv2 (ok_next (ok_num (ok_next (rr_ok hrr43 c89))))), congrArg (upd q_pace ((12 + (q_told 4)).toNatClampNeg)) (hv3 (ok_next (rr_ok hrr43 c89))), congrArg (upd q_mute ((12 + (q_told 4)).toNatClampNeg)) (wS_1 c47), congrArg (upd q_late ((12 + (q_told 4)).toNatClampNeg)) c87.symm⟩, low_t (by decide), (show y98 1 = x0 1 from hq104.trans (hq41.trans (hq31.trans (hq13)))), (show y98 10 = x0 10 from hq105.trans (hq42.trans (hq32.trans (hq14)))), by rw [ht]; exact hP9, hD9⟩, hS.F ht⟩) hS.2.2 dX11_readRouter_178
            · have b108 : iv 1 1 (wS tT 9 (rtr4 tT nN sS)) := iv_neLo c87 b86 ivk_0 (by decide) (by decide)
              refine lv_iconst (v := 1) hx hb dX11_readRouter_135 ic_1 ?_
              refine lv_goto (tgt := 140) hx hb dX11_readRouter_136 rfl ?_
              refine va_iast hx hb hK hP hD hS 5 1 rfl rfl (iv_in b15 (by decide) (by decide)) dX11_readRouter_140 (fun H locs hPa hDa hS => ?_)
              clear hP hD
              have hP : va_P (dC, dI) vwCl [(ra 2, .inl (kI, 8, .inl q_told)), (ra 3, .inl (kI, 24, .inl (upd q_kind (12 + (q_told 4)).toNatClampNeg r16))), (ra 4, .inl (kI, 24, .inl (upd q_salt (12 + (q_told 4)).toNatClampNeg r24))), (ra 5, .inl (kI, 24, .inl (upd q_pace (12 + (q_told 4)).toNatClampNeg r34))), (ra 6, .inl (kI, 24, .inl (upd q_mute (12 + (q_told 4)).toNatClampNeg 1))), (ra 7, .inl (kI, 24, .inl (upd q_late (12 + (q_told 4)).toNatClampNeg 1))), (ra 1, .inl (kS, 4, .inr (.inr (.inr (.inr q_kinds))))), (m0, .inr (11, oX11 ra y36)), (ra 13, .inl (kI, 700, .inl q_tape))] H := hPa
              have hD : va_D A [(ra 2, .inl (kI, 8, .inl q_told)), (ra 3, .inl (kI, 24, .inl (upd q_kind (12 + (q_told 4)).toNatClampNeg r16))), (ra 4, .inl (kI, 24, .inl (upd q_salt (12 + (q_told 4)).toNatClampNeg r24))), (ra 5, .inl (kI, 24, .inl (upd q_pace (12 + (q_told 4)).toNatClampNeg r34))), (ra 6, .inl (kI, 24, .inl (upd q_mute (12 + (q_told 4)).toNatClampNeg 1))), (ra 7, .inl (kI, 24, .inl (upd q_late (12 + (q_told 4)).toNatClampNeg 1))), (ra 1, .inl (kS, 4, .inr (.inr (.inr (.inr q_kinds))))), (m0, .inr (11, oX11 ra y36)), (ra 13, .inl (kI, 700, .inl q_tape))] := hDa
              clear hPa hDa
              refine lv_aload_n hx hb dX11_readRouter_141 rfl (lv_at hl 2 rfl) ?_
              refine va_get (D := (dC, dI)) (ci := 11) (v := .int (y36 8)) (C := RX11) (T := TX11) (N := 61) hx hb hts hin11 hown hK hP 7 rfl rfl 22 (Nat.le_of_ble_eq_true rfl) hw_1 (fun _ h9 => h9) rfl dX11_readRouter_142 ?_
              refine lv_if_ne (tgt := 168) hx hb dX11_readRouter_145 rfl (fun c109 => ?_) (fun c109 => ?_)
              · have b110 : iv 1 5 (y36 8) := iv_neLo c109 (hq37 8 : iv 0 5 (y36 8)) ivk_0 (by decide) (by decide)
                have hrr111 : RRd tT nN y36 (manT tT nN (rtr4 tT nN sS)) := (mq_b hrr43 c109) ▸ hrr43
                refine lv_aload_n hx hb dX11_readRouter_168 rfl (lv_at hl 2 rfl) ?_
                refine va_get (D := (dC, dI)) (ci := 11) (v := .ref (ra 2)) (C := RX11) (T := TX11) (N := 61) hx hb hts hin11 hown hK hP 7 rfl rfl 3 (Nat.le_of_ble_eq_true rfl) hw_0 (fun _ h9 => h9) rfl dX11_readRouter_169 ?_
                refine lv_iconst (v := 4) hx hb dX11_readRouter_172 ic_4 ?_
                refine lv_dup2_11 hx hb dX11_readRouter_173 rfl rfl ?_
                refine va_iald hx hb hK hP 0 1 rfl rfl (vp_in_nI (n := 4) (by decide) (by decide)) dX11_readRouter_174 ?_
                refine W.eq (g2 := F0 m 175 ls [.int (q_told 4), .int 4, .ref (ra 2)]) rfl ?_
                refine lv_iconst (v := 1) hx hb dX11_readRouter_175 ic_1 ?_
                refine lv_iadd hx hb dX11_readRouter_176 ?_
                have b112 : iv 1 12 ((q_told 4) + 1) := iv_add b2 ivk_1 (by decide) (by decide) (by decide) (by decide)
                refine va_iast hx hb hK hP hD hS 0 1 rfl rfl (vp_in_nI (n := 4) (by decide) (by decide)) dX11_readRouter_177 (fun H locs hPa hDa hS => ?_)
                clear hP hD
                have hP : va_P (dC, dI) vwCl [(ra 2, .inl (kI, 8, .inl (upd q_told 4 ((q_told 4) + 1)))), (ra 3, .inl (kI, 24, .inl (upd q_kind (12 + (q_told 4)).toNatClampNeg r16))), (ra 4, .inl (kI, 24, .inl (upd q_salt (12 + (q_told 4)).toNatClampNeg r24))), (ra 5, .inl (kI, 24, .inl (upd q_pace (12 + (q_told 4)).toNatClampNeg r34))), (ra 6, .inl (kI, 24, .inl (upd q_mute (12 + (q_told 4)).toNatClampNeg 1))), (ra 7, .inl (kI, 24, .inl (upd q_late (12 + (q_told 4)).toNatClampNeg 1))), (ra 1, .inl (kS, 4, .inr (.inr (.inr (.inr q_kinds))))), (m0, .inr (11, oX11 ra y36)), (ra 13, .inl (kI, 700, .inl q_tape))] H := hPa
                have hD : va_D A [(ra 2, .inl (kI, 8, .inl (upd q_told 4 ((q_told 4) + 1)))), (ra 3, .inl (kI, 24, .inl (upd q_kind (12 + (q_told 4)).toNatClampNeg r16))), (ra 4, .inl (kI, 24, .inl (upd q_salt (12 + (q_told 4)).toNatClampNeg r24))), (ra 5, .inl (kI, 24, .inl (upd q_pace (12 + (q_told 4)).toNatClampNeg r34))), (ra 6, .inl (kI, 24, .inl (upd q_mute (12 + (q_told 4)).toNatClampNeg 1))), (ra 7, .inl (kI, 24, .inl (upd q_late (12 + (q_told 4)).toNatClampNeg 1))), (ra 1, .inl (kS, 4, .inr (.inr (.inr (.inr q_kinds))))), (m0, .inr (11, oX11 ra y36)), (ra 13, .inl (kI, 700, .inl q_tape))] := hDa
                clear hPa hDa
                have hPD9 := cl_s (wc := [(m0, .inr (11, oX11 ra y36)), (ra 2, .inl (kI, 8, .inl (upd q_told 4 ((q_told 4) + 1)))), (ra 3, .inl (kI, 24, .inl (upd q_kind (12 + (q_told 4)).toNatClampNeg r16))), (ra 4, .inl (kI, 24, .inl (upd q_salt (12 + (q_told 4)).toNatClampNeg r24))), (ra 5, .inl (kI, 24, .inl (upd q_pace (12 + (q_told 4)).toNatClampNeg r34))), (ra 6, .inl (kI, 24, .inl (upd q_mute (12 + (q_told 4)).toNatClampNeg 1))), (ra 7, .inl (kI, 24, .inl (upd q_late (12 + (q_told 4)).toNatClampNeg 1))), (ra 13, .inl (kI, 700, .inl q_tape)), (ra 1, .inl (kS, 4, .inr (.inr (.inr (.inr q_kinds)))))]) hP hD [7, 0, 1, 2, 3, 4, 5, 8, 6] rfl (by decide +kernel)
                have hP9 := hPD9.1
                have hD9 := hPD9.2
                exact W.vret hx hb hr (fun t ht hW => ⟨⟨(), rfl, trivial, y36, upd q_told 4 ((q_told 4) + 1), upd q_kind (12 + (q_told 4)).toNatClampNeg r16, upd q_salt (12 + (q_told 4)).toNatClampNeg r24, upd q_pace (12 + (q_told 4)).toNatClampNeg r34, upd q_mute (12 + (q_told 4)).toNatClampNeg 1, upd q_late (12 + (q_told 4)).toNatClampNeg 1, hq37, (fI_u hq_told (k := 4) ((iv_w b112 (by decide) (by decide)))), (fI_u hq_salt (k := (12 + (q_told 4)).toNatClampNeg) (w25.1)), (show (x0 2).toInt ≤ (y36 2).toInt from by omega), (show y36 3 = x0 3 from hq39.trans (hq29.trans (hq10))), (show ∀ j : Nat, (j : Int) < (q_told 1).toInt → (q_from j).toInt < (q_to j).toInt from hLT), (show ∀ j : Nat, (j : Int) < (q_told 5).toInt → (q_from (20 + j)).toInt < (q_to (20 + j)).toInt from hLD), (show RRd tT nN y36 (rtrS tT nN sS (q_told 4)) from it_f (Q := RRd tT nN y36) c1 (hrr111)), fun w => absurd w c109, low_t (by decide), (show y36 1 = x0 1 from hq41.trans (hq31.trans (hq13))), (show y36 10 = x0 10 from hq42.trans (hq32.trans (hq14))), by rw [ht]; exact hP9, hD9⟩, hS.F ht⟩) hS.2.2 dX11_readRouter_178
              · have b113 : iv 0 0 (y36 8) := iv_eqL c109 ivk_0
                refine lv_aload_n hx hb dX11_readRouter_148 rfl (lv_at hl 2 rfl) ?_
                refine va_get (D := (dC, dI)) (ci := 11) (v := .ref (ra 6)) (C := RX11) (T := TX11) (N := 61) hx hb hts hin11 hown hK hP 7 rfl rfl 7 (Nat.le_of_ble_eq_true rfl) hw_6 (fun _ h9 => h9) rfl dX11_readRouter_149 ?_
                refine lv_iload_n hx hb dX11_readRouter_152 rfl (lv_at hl 1 rfl) ?_
                refine va_iald hx hb hK hP 4 1 rfl rfl (iv_in b15 (by decide) (by decide)) dX11_readRouter_153 ?_
                refine W.eq (g2 := F0 m 154 ls [.int 1]) (by rw [upd_eq]) ?_
                refine lv_aload_n hx hb dX11_readRouter_154 rfl (lv_at hl 2 rfl) ?_
                refine va_get (D := (dC, dI)) (ci := 11) (v := .ref (ra 7)) (C := RX11) (T := TX11) (N := 61) hx hb hts hin11 hown hK hP 7 rfl rfl 8 (Nat.le_of_ble_eq_true rfl) hw_7 (fun _ h9 => h9) rfl dX11_readRouter_155 ?_
                refine lv_iload_n hx hb dX11_readRouter_158 rfl (lv_at hl 1 rfl) ?_
                refine va_iald hx hb hK hP 5 1 rfl rfl (iv_in b15 (by decide) (by decide)) dX11_readRouter_159 ?_
                refine W.eq (g2 := F0 m 160 ls [.int 1, .int 1]) (by rw [upd_eq]) ?_
                refine lv_iadd hx hb dX11_readRouter_160 ?_
                refine lv_topi (fun z114 e115 => ?_)
                obtain rfl : z114 = (2 : Int32) := e115.trans (by decide)
                refine lv_if_le (tgt := 168) hx hb dX11_readRouter_161 rfl (fun c9 => absurd c9 (by decide)) (fun _ => ?_)
                refine lv_aload_n hx hb dX11_readRouter_164 rfl (lv_at hl 2 rfl) ?_
                obtain ⟨hPc, hDc, hFc, hJn⟩ := cl_a (wc := [(m0, .inr (11, oX11 ra y36)), (ra 13, .inl (kI, 700, .inl q_tape))]) (wr := [(ra 2, .inl (kI, 8, .inl q_told)), (ra 3, .inl (kI, 24, .inl (upd q_kind (12 + (q_told 4)).toNatClampNeg r16))), (ra 4, .inl (kI, 24, .inl (upd q_salt (12 + (q_told 4)).toNatClampNeg r24))), (ra 5, .inl (kI, 24, .inl (upd q_pace (12 + (q_told 4)).toNatClampNeg r34))), (ra 6, .inl (kI, 24, .inl (upd q_mute (12 + (q_told 4)).toNatClampNeg 1))), (ra 7, .inl (kI, 24, .inl (upd q_late (12 + (q_told 4)).toNatClampNeg 1))), (ra 1, .inl (kS, 4, .inr (.inr (.inr (.inr q_kinds)))))]) hP hD hS hA [7, 8] [0, 1, 2, 3, 4, 5, 6] rfl rfl (by decide +kernel)
                refine va_callv (va_runV (As := []) (rest := []) ⟨hx, hb, hml, hown, hts⟩ (s11_stepOn l dC dI kB kI kJ kZ kC kS H.size m0 ra y36 q_tape tT nN (nextT tT nN (rtr4 tT nN sS)) (hq37) (hq_tape) (hrr43.2) (stp_of hrr43) (hTQ)) (cwV 0 hts gX11_readRouter_X11_stepOn rfl rfl rfl (by decide +kernel) ⟨Nat.le_of_ble_eq_true rfl, Nat.le_of_ble_eq_true rfl⟩) ⟨fun a U g mk q => by obtain ⟨q0, q1, qP, qE, qD⟩ := q; exact ⟨q0, q1, qP, kE_call qE, qD⟩, va_recv hK hP (ci := 11) (q0 := 7) rfl rfl, fun U hU hW => ⟨rfl, by rw [hU], by rw [hU]; exact hPc, kE_warm hW hE, hDc.weaken (fun _ _ _ _ => trivial)⟩⟩ rfl rfl hl.1 rfl (lv_room (Nat.le_of_ble_eq_true rfl)) dX11_readRouter_165 ⟨Nat.le_of_ble_eq_true rfl, Nat.le_of_ble_eq_true rfl⟩) hS (fun q _ h => hFc q h) hFc (fun u t H locs ht hvm w117 hB hz1 hk1 hS => ?_)
                obtain ⟨y118, hq119, hq120, hq121, hq122, hq123, hq124, hq125, hP1, hD1⟩ := hB
                try dsimp only at w117
                obtain ⟨hPa, hDa⟩ := hJn (w1 := [(m0, .inr (11, oX11 ra y118)), (ra 13, .inl (kI, 700, .inl q_tape))]) hk1 ht hP1 hD1
                clear hP hD hPc hDc hFc hJn hP1 hD1 hk1
                have hP : va_P (dC, dI) vwCl [(ra 2, .inl (kI, 8, .inl q_told)), (ra 3, .inl (kI, 24, .inl (upd q_kind (12 + (q_told 4)).toNatClampNeg r16))), (ra 4, .inl (kI, 24, .inl (upd q_salt (12 + (q_told 4)).toNatClampNeg r24))), (ra 5, .inl (kI, 24, .inl (upd q_pace (12 + (q_told 4)).toNatClampNeg r34))), (ra 6, .inl (kI, 24, .inl (upd q_mute (12 + (q_told 4)).toNatClampNeg 1))), (ra 7, .inl (kI, 24, .inl (upd q_late (12 + (q_told 4)).toNatClampNeg 1))), (ra 1, .inl (kS, 4, .inr (.inr (.inr (.inr q_kinds))))), (m0, .inr (11, oX11 ra y118)), (ra 13, .inl (kI, 700, .inl q_tape))] H := hPa
                have hD : va_D A [(ra 2, .inl (kI, 8, .inl q_told)), (ra 3, .inl (kI, 24, .inl (upd q_kind (12 + (q_told 4)).toNatClampNeg r16))), (ra 4, .inl (kI, 24, .inl (upd q_salt (12 + (q_told 4)).toNatClampNeg r24))), (ra 5, .inl (kI, 24, .inl (upd q_pace (12 + (q_told 4)).toNatClampNeg r34))), (ra 6, .inl (kI, 24, .inl (upd q_mute (12 + (q_told 4)).toNatClampNeg 1))), (ra 7, .inl (kI, 24, .inl (upd q_late (12 + (q_told 4)).toNatClampNeg 1))), (ra 1, .inl (kS, 4, .inr (.inr (.inr (.inr q_kinds))))), (m0, .inr (11, oX11 ra y118)), (ra 13, .inl (kI, 700, .inl q_tape))] := hDa
                clear hPa hDa
                refine W.widen (k := 0) (n := 0) (Nat.le_of_ble_eq_true rfl) (Nat.le_of_ble_eq_true rfl) ?_
                have hrr126 : RRd tT nN y118 (manT tT nN (rtr4 tT nN sS)) := (mq_s hrr43 c109 (Or.inl c47)) ▸ hq123
                refine lv_aload_n hx hb dX11_readRouter_168 rfl (lv_at hl 2 rfl) ?_
                refine va_get (D := (dC, dI)) (ci := 11) (v := .ref (ra 2)) (C := RX11) (T := TX11) (N := 61) hx hb hts hin11 hown hK hP 7 rfl rfl 3 (Nat.le_of_ble_eq_true rfl) hw_0 (fun _ h9 => h9) rfl dX11_readRouter_169 ?_
                refine lv_iconst (v := 4) hx hb dX11_readRouter_172 ic_4 ?_
                refine lv_dup2_11 hx hb dX11_readRouter_173 rfl rfl ?_
                refine va_iald hx hb hK hP 0 1 rfl rfl (vp_in_nI (n := 4) (by decide) (by decide)) dX11_readRouter_174 ?_
                refine W.eq (g2 := F0 m 175 ls [.int (q_told 4), .int 4, .ref (ra 2)]) rfl ?_
                refine lv_iconst (v := 1) hx hb dX11_readRouter_175 ic_1 ?_
                refine lv_iadd hx hb dX11_readRouter_176 ?_
                have b127 : iv 1 12 ((q_told 4) + 1) := iv_add b2 ivk_1 (by decide) (by decide) (by decide) (by decide)
                refine va_iast hx hb hK hP hD hS 0 1 rfl rfl (vp_in_nI (n := 4) (by decide) (by decide)) dX11_readRouter_177 (fun H locs hPa hDa hS => ?_)
                clear hP hD
                have hP : va_P (dC, dI) vwCl [(ra 2, .inl (kI, 8, .inl (upd q_told 4 ((q_told 4) + 1)))), (ra 3, .inl (kI, 24, .inl (upd q_kind (12 + (q_told 4)).toNatClampNeg r16))), (ra 4, .inl (kI, 24, .inl (upd q_salt (12 + (q_told 4)).toNatClampNeg r24))), (ra 5, .inl (kI, 24, .inl (upd q_pace (12 + (q_told 4)).toNatClampNeg r34))), (ra 6, .inl (kI, 24, .inl (upd q_mute (12 + (q_told 4)).toNatClampNeg 1))), (ra 7, .inl (kI, 24, .inl (upd q_late (12 + (q_told 4)).toNatClampNeg 1))), (ra 1, .inl (kS, 4, .inr (.inr (.inr (.inr q_kinds))))), (m0, .inr (11, oX11 ra y118)), (ra 13, .inl (kI, 700, .inl q_tape))] H := hPa
                have hD : va_D A [(ra 2, .inl (kI, 8, .inl (upd q_told 4 ((q_told 4) + 1)))), (ra 3, .inl (kI, 24, .inl (upd q_kind (12 + (q_told 4)).toNatClampNeg r16))), (ra 4, .inl (kI, 24, .inl (upd q_salt (12 + (q_told 4)).toNatClampNeg r24))), (ra 5, .inl (kI, 24, .inl (upd q_pace (12 + (q_told 4)).toNatClampNeg r34))), (ra 6, .inl (kI, 24, .inl (upd q_mute (12 + (q_told 4)).toNatClampNeg 1))), (ra 7, .inl (kI, 24, .inl (upd q_late (12 + (q_told 4)).toNatClampNeg 1))), (ra 1, .inl (kS, 4, .inr (.inr (.inr (.inr q_kinds))))), (m0, .inr (11, oX11 ra y118)), (ra 13, .inl (kI, 700, .inl q_tape))] := hDa
                clear hPa hDa
                have hPD9 := cl_s (wc := [(m0, .inr (11, oX11 ra y118)), (ra 2, .inl (kI, 8, .inl (upd q_told 4 ((q_told 4) + 1)))), (ra 3, .inl (kI, 24, .inl (upd q_kind (12 + (q_told 4)).toNatClampNeg r16))), (ra 4, .inl (kI, 24, .inl (upd q_salt (12 + (q_told 4)).toNatClampNeg r24))), (ra 5, .inl (kI, 24, .inl (upd q_pace (12 + (q_told 4)).toNatClampNeg r34))), (ra 6, .inl (kI, 24, .inl (upd q_mute (12 + (q_told 4)).toNatClampNeg 1))), (ra 7, .inl (kI, 24, .inl (upd q_late (12 + (q_told 4)).toNatClampNeg 1))), (ra 13, .inl (kI, 700, .inl q_tape)), (ra 1, .inl (kS, 4, .inr (.inr (.inr (.inr q_kinds)))))]) hP hD [7, 0, 1, 2, 3, 4, 5, 8, 6] rfl (by decide +kernel)
                have hP9 := hPD9.1
                have hD9 := hPD9.2
                exact W.vret hx hb hr (fun t ht hW => ⟨⟨(), rfl, trivial, y118, upd q_told 4 ((q_told 4) + 1), upd q_kind (12 + (q_told 4)).toNatClampNeg r16, upd q_salt (12 + (q_told 4)).toNatClampNeg r24, upd q_pace (12 + (q_told 4)).toNatClampNeg r34, upd q_mute (12 + (q_told 4)).toNatClampNeg 1, upd q_late (12 + (q_told 4)).toNatClampNeg 1, hq119, (fI_u hq_told (k := 4) ((iv_w b127 (by decide) (by decide)))), (fI_u hq_salt (k := (12 + (q_told 4)).toNatClampNeg) (w25.1)), (show (x0 2).toInt ≤ (y118 2).toInt from by omega), (show y118 3 = x0 3 from hq121.trans (hq39.trans (hq29.trans (hq10)))), (show ∀ j : Nat, (j : Int) < (q_told 1).toInt → (q_from j).toInt < (q_to j).toInt from hLT), (show ∀ j : Nat, (j : Int) < (q_told 5).toInt → (q_from (20 + j)).toInt < (q_to (20 + j)).toInt from hLD), (show RRd tT nN y118 (rtrS tT nN sS (q_told 4)) from it_f (Q := RRd tT nN y118) c1 (hrr126)), fun _ => ⟨rfl, congrArg (upd q_kind ((12 + (q_told 4)).toNatClampNeg)) ((kq_y hwk c18).2 (ok_next (ok_num (ok_next (ok_num (ok_next (rr_ok hrr43 c109))))))), congrArg (upd q_salt ((12 + (q_told 4)).toNatClampNeg)) (hv2 (ok_next (ok_num (ok_next (rr_ok hrr43 c109))))), congrArg (upd q_pace ((12 + (q_told 4)).toNatClampNeg)) (hv3 (ok_next (rr_ok hrr43 c109))), congrArg (upd q_mute ((12 + (q_told 4)).toNatClampNeg)) (wS_1 c47), congrArg (upd q_late ((12 + (q_told 4)).toNatClampNeg)) (wS_1 c87)⟩, low_t (by decide), (show y118 1 = x0 1 from hq124.trans (hq41.trans (hq31.trans (hq13)))), (show y118 10 = x0 10 from hq125.trans (hq42.trans (hq32.trans (hq14)))), by rw [ht]; exact hP9, hD9⟩, hS.F ht⟩) hS.2.2 dX11_readRouter_178
        · have b128 : iv 0 0 (y7 8) := iv_eqL c21 ivk_0
          refine lv_aload_n hx hb dX11_readRouter_64 rfl (lv_at hl 2 rfl) ?_
          obtain ⟨hPc, hDc, hFc, hJn⟩ := cl_a (wc := [(m0, .inr (11, oX11 ra y7)), (ra 13, .inl (kI, 700, .inl q_tape))]) (wr := [(ra 2, .inl (kI, 8, .inl q_told)), (ra 3, .inl (kI, 24, .inl q_kind)), (ra 4, .inl (kI, 24, .inl q_salt)), (ra 5, .inl (kI, 24, .inl q_pace)), (ra 6, .inl (kI, 24, .inl q_mute)), (ra 7, .inl (kI, 24, .inl q_late)), (ra 1, .inl (kS, 4, .inr (.inr (.inr (.inr q_kinds)))))]) hP hD hS hA [6, 7] [0, 1, 2, 3, 4, 5, 8] rfl rfl (by decide +kernel)
          refine va_callv (va_runV (As := []) (rest := []) ⟨hx, hb, hml, hown, hts⟩ (s11_stepOn l dC dI kB kI kJ kZ kC kS H.size m0 ra y7 q_tape tT nN (nextT tT nN (kndT tT (rtr1 tT nN sS))) (hq8) (hq_tape) (hrr20.2) (stp_of hrr20) (hTQ)) (cwV 0 hts gX11_readRouter_X11_stepOn rfl rfl rfl (by decide +kernel) ⟨Nat.le_of_ble_eq_true rfl, Nat.le_of_ble_eq_true rfl⟩) ⟨fun a U g mk q => by obtain ⟨q0, q1, qP, qE, qD⟩ := q; exact ⟨q0, q1, qP, kE_call qE, qD⟩, va_recv hK hP (ci := 11) (q0 := 6) rfl rfl, fun U hU hW => ⟨rfl, by rw [hU], by rw [hU]; exact hPc, kE_warm hW hE, hDc.weaken (fun _ _ _ _ => trivial)⟩⟩ rfl rfl hl.1 rfl (lv_room (Nat.le_of_ble_eq_true rfl)) dX11_readRouter_65 ⟨Nat.le_of_ble_eq_true rfl, Nat.le_of_ble_eq_true rfl⟩) hS (fun q _ h => hFc q h) hFc (fun u t H locs ht hvm w130 hB hz1 hk1 hS => ?_)
          obtain ⟨y131, hq132, hq133, hq134, hq135, hq136, hq137, hq138, hP1, hD1⟩ := hB
          try dsimp only at w130
          obtain ⟨hPa, hDa⟩ := hJn (w1 := [(m0, .inr (11, oX11 ra y131)), (ra 13, .inl (kI, 700, .inl q_tape))]) hk1 ht hP1 hD1
          clear hP hD hPc hDc hFc hJn hP1 hD1 hk1
          have hP : va_P (dC, dI) vwCl [(ra 2, .inl (kI, 8, .inl q_told)), (ra 3, .inl (kI, 24, .inl q_kind)), (ra 4, .inl (kI, 24, .inl q_salt)), (ra 5, .inl (kI, 24, .inl q_pace)), (ra 6, .inl (kI, 24, .inl q_mute)), (ra 7, .inl (kI, 24, .inl q_late)), (ra 1, .inl (kS, 4, .inr (.inr (.inr (.inr q_kinds))))), (m0, .inr (11, oX11 ra y131)), (ra 13, .inl (kI, 700, .inl q_tape))] H := hPa
          have hD : va_D A [(ra 2, .inl (kI, 8, .inl q_told)), (ra 3, .inl (kI, 24, .inl q_kind)), (ra 4, .inl (kI, 24, .inl q_salt)), (ra 5, .inl (kI, 24, .inl q_pace)), (ra 6, .inl (kI, 24, .inl q_mute)), (ra 7, .inl (kI, 24, .inl q_late)), (ra 1, .inl (kS, 4, .inr (.inr (.inr (.inr q_kinds))))), (m0, .inr (11, oX11 ra y131)), (ra 13, .inl (kI, 700, .inl q_tape))] := hDa
          clear hPa hDa
          refine W.widen (k := 0) (n := 0) (Nat.le_of_ble_eq_true rfl) (Nat.le_of_ble_eq_true rfl) ?_
          have hrr139 : RRd tT nN y131 (rtr2 tT nN sS) := hq136
          refine lv_aload_n hx hb dX11_readRouter_68 rfl (lv_at hl 2 rfl) ?_
          refine va_get (D := (dC, dI)) (ci := 11) (v := .ref (ra 3)) (C := RX11) (T := TX11) (N := 61) hx hb hts hin11 hown hK hP 7 rfl rfl 4 (Nat.le_of_ble_eq_true rfl) hw_3 (fun _ h9 => h9) rfl dX11_readRouter_69 ?_
          refine lv_iload_n hx hb dX11_readRouter_72 rfl (lv_at hl 1 rfl) ?_
          refine lv_iload_n hx hb dX11_readRouter_73 rfl (lv_at hl 0 rfl) ?_
          refine va_iast hx hb hK hP hD hS 1 1 rfl rfl (iv_in b15 (by decide) (by decide)) dX11_readRouter_74 (fun H locs hPa hDa hS => ?_)
          clear hP hD
          have hP : va_P (dC, dI) vwCl [(ra 2, .inl (kI, 8, .inl q_told)), (ra 3, .inl (kI, 24, .inl (upd q_kind (12 + (q_told 4)).toNatClampNeg r16))), (ra 4, .inl (kI, 24, .inl q_salt)), (ra 5, .inl (kI, 24, .inl q_pace)), (ra 6, .inl (kI, 24, .inl q_mute)), (ra 7, .inl (kI, 24, .inl q_late)), (ra 1, .inl (kS, 4, .inr (.inr (.inr (.inr q_kinds))))), (m0, .inr (11, oX11 ra y131)), (ra 13, .inl (kI, 700, .inl q_tape))] H := hPa
          have hD : va_D A [(ra 2, .inl (kI, 8, .inl q_told)), (ra 3, .inl (kI, 24, .inl (upd q_kind (12 + (q_told 4)).toNatClampNeg r16))), (ra 4, .inl (kI, 24, .inl q_salt)), (ra 5, .inl (kI, 24, .inl q_pace)), (ra 6, .inl (kI, 24, .inl q_mute)), (ra 7, .inl (kI, 24, .inl q_late)), (ra 1, .inl (kS, 4, .inr (.inr (.inr (.inr q_kinds))))), (m0, .inr (11, oX11 ra y131)), (ra 13, .inl (kI, 700, .inl q_tape))] := hDa
          clear hPa hDa
          refine lv_aload_n hx hb dX11_readRouter_75 rfl (lv_at hl 2 rfl) ?_
          refine va_get (D := (dC, dI)) (ci := 11) (v := .ref (ra 4)) (C := RX11) (T := TX11) (N := 61) hx hb hts hin11 hown hK hP 7 rfl rfl 5 (Nat.le_of_ble_eq_true rfl) hw_4 (fun _ h9 => h9) rfl dX11_readRouter_76 ?_
          refine lv_iload_n hx hb dX11_readRouter_79 rfl (lv_at hl 1 rfl) ?_
          refine lv_aload_n hx hb dX11_readRouter_80 rfl (lv_at hl 2 rfl) ?_
          refine lv_iconst (v := 0) hx hb dX11_readRouter_81 ic_0 ?_
          refine lv_bipush (v := 15) hx hb dX11_readRouter_82 bp_15 ?_
          obtain ⟨hPc, hDc, hFc, hJn⟩ := cl_a (wc := [(m0, .inr (11, oX11 ra y131)), (ra 13, .inl (kI, 700, .inl q_tape))]) (wr := [(ra 2, .inl (kI, 8, .inl q_told)), (ra 3, .inl (kI, 24, .inl (upd q_kind (12 + (q_told 4)).toNatClampNeg r16))), (ra 4, .inl (kI, 24, .inl q_salt)), (ra 5, .inl (kI, 24, .inl q_pace)), (ra 6, .inl (kI, 24, .inl q_mute)), (ra 7, .inl (kI, 24, .inl q_late)), (ra 1, .inl (kS, 4, .inr (.inr (.inr (.inr q_kinds)))))]) hP hD hS hA [7, 8] [0, 1, 2, 3, 4, 5, 6] rfl rfl (by decide +kernel)
          refine va_calli (va_runV (As := [.int 0, .int 15]) (rest := [.int (12 + (q_told 4)), .ref (ra 4)]) ⟨hx, hb, hml, hown, hts⟩ (s11_readNumber_0_15 l dC dI kB kI kJ kZ kC kS H.size m0 ra y131 q_tape tT nN (rtr2 tT nN sS) (hq132) (hq_tape) (hrr139) (hTQ)) (cwV 2 hts gX11_readRouter_X11_readNumber rfl rfl rfl (by decide +kernel) ⟨Nat.le_of_ble_eq_true rfl, Nat.le_of_ble_eq_true rfl⟩) ⟨fun a U g mk q => by obtain ⟨q0, q1, qP, qE, qD⟩ := q; exact ⟨q0, q1, qP, kE_call qE, qD⟩, va_recv hK hP (ci := 11) (q0 := 7) rfl rfl, fun U hU hW => ⟨rfl, by rw [hU], by rw [hU]; exact hPc, kE_warm hW hE, hDc.weaken (fun _ _ _ _ => trivial)⟩⟩ rfl rfl hl.1 rfl (lv_room (Nat.le_of_ble_eq_true rfl)) dX11_readRouter_84 ⟨Nat.le_of_ble_eq_true rfl, Nat.le_of_ble_eq_true rfl⟩) hS (fun q _ h => hFc q h) hFc (fun r140 u t H locs ht hvm w141 hB hz1 hk1 hS => ?_)
          obtain ⟨y142, hq143, hq144, hq145, hq146, hq147, hq148, hP1, hD1⟩ := hB
          try dsimp only at w141
          obtain ⟨hPa, hDa⟩ := hJn (w1 := [(m0, .inr (11, oX11 ra y142)), (ra 13, .inl (kI, 700, .inl q_tape))]) hk1 ht hP1 hD1
          clear hP hD hPc hDc hFc hJn hP1 hD1 hk1
          have hP : va_P (dC, dI) vwCl [(ra 2, .inl (kI, 8, .inl q_told)), (ra 3, .inl (kI, 24, .inl (upd q_kind (12 + (q_told 4)).toNatClampNeg r16))), (ra 4, .inl (kI, 24, .inl q_salt)), (ra 5, .inl (kI, 24, .inl q_pace)), (ra 6, .inl (kI, 24, .inl q_mute)), (ra 7, .inl (kI, 24, .inl q_late)), (ra 1, .inl (kS, 4, .inr (.inr (.inr (.inr q_kinds))))), (m0, .inr (11, oX11 ra y142)), (ra 13, .inl (kI, 700, .inl q_tape))] H := hPa
          have hD : va_D A [(ra 2, .inl (kI, 8, .inl q_told)), (ra 3, .inl (kI, 24, .inl (upd q_kind (12 + (q_told 4)).toNatClampNeg r16))), (ra 4, .inl (kI, 24, .inl q_salt)), (ra 5, .inl (kI, 24, .inl q_pace)), (ra 6, .inl (kI, 24, .inl q_mute)), (ra 7, .inl (kI, 24, .inl q_late)), (ra 1, .inl (kS, 4, .inr (.inr (.inr (.inr q_kinds))))), (m0, .inr (11, oX11 ra y142)), (ra 13, .inl (kI, 700, .inl q_tape))] := hDa
          clear hPa hDa
          refine W.widen (k := 0) (n := 0) (Nat.le_of_ble_eq_true rfl) (Nat.le_of_ble_eq_true rfl) ?_
          have hv2 := w141.2
          refine va_iast hx hb hK hP hD hS 2 1 rfl rfl (iv_in b15 (by decide) (by decide)) dX11_readRouter_87 (fun H locs hPa hDa hS => ?_)
          clear hP hD
          have hP : va_P (dC, dI) vwCl [(ra 2, .inl (kI, 8, .inl q_told)), (ra 3, .inl (kI, 24, .inl (upd q_kind (12 + (q_told 4)).toNatClampNeg r16))), (ra 4, .inl (kI, 24, .inl (upd q_salt (12 + (q_told 4)).toNatClampNeg r140))), (ra 5, .inl (kI, 24, .inl q_pace)), (ra 6, .inl (kI, 24, .inl q_mute)), (ra 7, .inl (kI, 24, .inl q_late)), (ra 1, .inl (kS, 4, .inr (.inr (.inr (.inr q_kinds))))), (m0, .inr (11, oX11 ra y142)), (ra 13, .inl (kI, 700, .inl q_tape))] H := hPa
          have hD : va_D A [(ra 2, .inl (kI, 8, .inl q_told)), (ra 3, .inl (kI, 24, .inl (upd q_kind (12 + (q_told 4)).toNatClampNeg r16))), (ra 4, .inl (kI, 24, .inl (upd q_salt (12 + (q_told 4)).toNatClampNeg r140))), (ra 5, .inl (kI, 24, .inl q_pace)), (ra 6, .inl (kI, 24, .inl q_mute)), (ra 7, .inl (kI, 24, .inl q_late)), (ra 1, .inl (kS, 4, .inr (.inr (.inr (.inr q_kinds))))), (m0, .inr (11, oX11 ra y142)), (ra 13, .inl (kI, 700, .inl q_tape))] := hDa
          clear hPa hDa
          have hrr149 : RRd tT nN y142 (rtr3 tT nN sS) := hq146
          refine lv_aload_n hx hb dX11_readRouter_88 rfl (lv_at hl 2 rfl) ?_
          refine va_get (D := (dC, dI)) (ci := 11) (v := .ref (ra 5)) (C := RX11) (T := TX11) (N := 61) hx hb hts hin11 hown hK hP 7 rfl rfl 6 (Nat.le_of_ble_eq_true rfl) hw_5 (fun _ h9 => h9) rfl dX11_readRouter_89 ?_
          refine lv_iload_n hx hb dX11_readRouter_92 rfl (lv_at hl 1 rfl) ?_
          refine lv_aload_n hx hb dX11_readRouter_93 rfl (lv_at hl 2 rfl) ?_
          refine lv_iconst (v := 1) hx hb dX11_readRouter_94 ic_1 ?_
          refine lv_bipush (v := 60) hx hb dX11_readRouter_95 bp_60 ?_
          obtain ⟨hPc, hDc, hFc, hJn⟩ := cl_a (wc := [(m0, .inr (11, oX11 ra y142)), (ra 13, .inl (kI, 700, .inl q_tape))]) (wr := [(ra 2, .inl (kI, 8, .inl q_told)), (ra 3, .inl (kI, 24, .inl (upd q_kind (12 + (q_told 4)).toNatClampNeg r16))), (ra 4, .inl (kI, 24, .inl (upd q_salt (12 + (q_told 4)).toNatClampNeg r140))), (ra 5, .inl (kI, 24, .inl q_pace)), (ra 6, .inl (kI, 24, .inl q_mute)), (ra 7, .inl (kI, 24, .inl q_late)), (ra 1, .inl (kS, 4, .inr (.inr (.inr (.inr q_kinds)))))]) hP hD hS hA [7, 8] [0, 1, 2, 3, 4, 5, 6] rfl rfl (by decide +kernel)
          refine va_calli (va_runV (As := [.int 1, .int 60]) (rest := [.int (12 + (q_told 4)), .ref (ra 5)]) ⟨hx, hb, hml, hown, hts⟩ (s11_readNumber_1_60 l dC dI kB kI kJ kZ kC kS H.size m0 ra y142 q_tape tT nN (rtr3 tT nN sS) (hq143) (hq_tape) (hrr149) (hTQ)) (cwV 2 hts gX11_readRouter_X11_readNumber rfl rfl rfl (by decide +kernel) ⟨Nat.le_of_ble_eq_true rfl, Nat.le_of_ble_eq_true rfl⟩) ⟨fun a U g mk q => by obtain ⟨q0, q1, qP, qE, qD⟩ := q; exact ⟨q0, q1, qP, kE_call qE, qD⟩, va_recv hK hP (ci := 11) (q0 := 7) rfl rfl, fun U hU hW => ⟨rfl, by rw [hU], by rw [hU]; exact hPc, kE_warm hW hE, hDc.weaken (fun _ _ _ _ => trivial)⟩⟩ rfl rfl hl.1 rfl (lv_room (Nat.le_of_ble_eq_true rfl)) dX11_readRouter_97 ⟨Nat.le_of_ble_eq_true rfl, Nat.le_of_ble_eq_true rfl⟩) hS (fun q _ h => hFc q h) hFc (fun r150 u t H locs ht hvm w151 hB hz1 hk1 hS => ?_)
          obtain ⟨y152, hq153, hq154, hq155, hq156, hq157, hq158, hP1, hD1⟩ := hB
          try dsimp only at w151
          obtain ⟨hPa, hDa⟩ := hJn (w1 := [(m0, .inr (11, oX11 ra y152)), (ra 13, .inl (kI, 700, .inl q_tape))]) hk1 ht hP1 hD1
          clear hP hD hPc hDc hFc hJn hP1 hD1 hk1
          have hP : va_P (dC, dI) vwCl [(ra 2, .inl (kI, 8, .inl q_told)), (ra 3, .inl (kI, 24, .inl (upd q_kind (12 + (q_told 4)).toNatClampNeg r16))), (ra 4, .inl (kI, 24, .inl (upd q_salt (12 + (q_told 4)).toNatClampNeg r140))), (ra 5, .inl (kI, 24, .inl q_pace)), (ra 6, .inl (kI, 24, .inl q_mute)), (ra 7, .inl (kI, 24, .inl q_late)), (ra 1, .inl (kS, 4, .inr (.inr (.inr (.inr q_kinds))))), (m0, .inr (11, oX11 ra y152)), (ra 13, .inl (kI, 700, .inl q_tape))] H := hPa
          have hD : va_D A [(ra 2, .inl (kI, 8, .inl q_told)), (ra 3, .inl (kI, 24, .inl (upd q_kind (12 + (q_told 4)).toNatClampNeg r16))), (ra 4, .inl (kI, 24, .inl (upd q_salt (12 + (q_told 4)).toNatClampNeg r140))), (ra 5, .inl (kI, 24, .inl q_pace)), (ra 6, .inl (kI, 24, .inl q_mute)), (ra 7, .inl (kI, 24, .inl q_late)), (ra 1, .inl (kS, 4, .inr (.inr (.inr (.inr q_kinds))))), (m0, .inr (11, oX11 ra y152)), (ra 13, .inl (kI, 700, .inl q_tape))] := hDa
          clear hPa hDa
          refine W.widen (k := 0) (n := 0) (Nat.le_of_ble_eq_true rfl) (Nat.le_of_ble_eq_true rfl) ?_
          have hv3 := w151.2
          refine va_iast hx hb hK hP hD hS 3 1 rfl rfl (iv_in b15 (by decide) (by decide)) dX11_readRouter_100 (fun H locs hPa hDa hS => ?_)
          clear hP hD
          have hP : va_P (dC, dI) vwCl [(ra 2, .inl (kI, 8, .inl q_told)), (ra 3, .inl (kI, 24, .inl (upd q_kind (12 + (q_told 4)).toNatClampNeg r16))), (ra 4, .inl (kI, 24, .inl (upd q_salt (12 + (q_told 4)).toNatClampNeg r140))), (ra 5, .inl (kI, 24, .inl (upd q_pace (12 + (q_told 4)).toNatClampNeg r150))), (ra 6, .inl (kI, 24, .inl q_mute)), (ra 7, .inl (kI, 24, .inl q_late)), (ra 1, .inl (kS, 4, .inr (.inr (.inr (.inr q_kinds))))), (m0, .inr (11, oX11 ra y152)), (ra 13, .inl (kI, 700, .inl q_tape))] H := hPa
          have hD : va_D A [(ra 2, .inl (kI, 8, .inl q_told)), (ra 3, .inl (kI, 24, .inl (upd q_kind (12 + (q_told 4)).toNatClampNeg r16))), (ra 4, .inl (kI, 24, .inl (upd q_salt (12 + (q_told 4)).toNatClampNeg r140))), (ra 5, .inl (kI, 24, .inl (upd q_pace (12 + (q_told 4)).toNatClampNeg r150))), (ra 6, .inl (kI, 24, .inl q_mute)), (ra 7, .inl (kI, 24, .inl q_late)), (ra 1, .inl (kS, 4, .inr (.inr (.inr (.inr q_kinds))))), (m0, .inr (11, oX11 ra y152)), (ra 13, .inl (kI, 700, .inl q_tape))] := hDa
          clear hPa hDa
          have hrr159 : RRd tT nN y152 (rtr4 tT nN sS) := hq156
          refine lv_aload_n hx hb dX11_readRouter_101 rfl (lv_at hl 2 rfl) ?_
          refine va_get (D := (dC, dI)) (ci := 11) (v := .ref (ra 6)) (C := RX11) (T := TX11) (N := 61) hx hb hts hin11 hown hK hP 7 rfl rfl 7 (Nat.le_of_ble_eq_true rfl) hw_6 (fun _ h9 => h9) rfl dX11_readRouter_102 ?_
          refine lv_iload_n hx hb dX11_readRouter_105 rfl (lv_at hl 1 rfl) ?_
          refine lv_aload_n hx hb dX11_readRouter_106 rfl (lv_at hl 2 rfl) ?_
          refine va_ldcS hx hb hown hKL.2.2.2.2.2.2.2.2.2.2.2.2.2.2.2.2.2.2.2.2.2.1 dX11_readRouter_107 ?_
          obtain ⟨hPc, hDc, hFc, hJn⟩ := cl_a (wc := [(m0, .inr (11, oX11 ra y152)), (ra 13, .inl (kI, 700, .inl q_tape))]) (wr := [(ra 2, .inl (kI, 8, .inl q_told)), (ra 3, .inl (kI, 24, .inl (upd q_kind (12 + (q_told 4)).toNatClampNeg r16))), (ra 4, .inl (kI, 24, .inl (upd q_salt (12 + (q_told 4)).toNatClampNeg r140))), (ra 5, .inl (kI, 24, .inl (upd q_pace (12 + (q_told 4)).toNatClampNeg r150))), (ra 6, .inl (kI, 24, .inl q_mute)), (ra 7, .inl (kI, 24, .inl q_late)), (ra 1, .inl (kS, 4, .inr (.inr (.inr (.inr q_kinds)))))]) hP hD hS hA [7, 8] [0, 1, 2, 3, 4, 5, 6] rfl rfl (by decide +kernel)
          refine va_calli (va_runV (As := [.ref (adK 8)]) (rest := [.int (12 + (q_told 4)), .ref (ra 6)]) ⟨hx, hb, hml, hown, hts⟩ (s11_is l dC dI kB kI kJ kZ kC kS H.size adK adV m0 ra y152 q_tape 8 tT nN (rtr4 tT nN sS) (hq153) (hq_tape) ((by decide)) (hrr159) (hTQ)) (cwV 1 hts gX11_readRouter_X11_is rfl rfl rfl (by decide +kernel) ⟨Nat.le_of_ble_eq_true rfl, Nat.le_of_ble_eq_true rfl⟩) ⟨fun a U g mk q => by obtain ⟨q0, q1, qP, qE, qD, qL⟩ := q; exact ⟨q0, q1, qP, kE_call qE, qD, kL_call qL⟩, va_recv hK hP (ci := 11) (q0 := 7) rfl rfl, fun U hU hW => ⟨rfl, by rw [hU], by rw [hU]; exact hPc, kE_warm hW hE, hDc.weaken (fun _ _ _ _ => trivial), kL_at hKL hS hFc hW hU⟩⟩ rfl rfl hl.1 rfl (lv_room (Nat.le_of_ble_eq_true rfl)) dX11_readRouter_109 ⟨Nat.le_of_ble_eq_true rfl, Nat.le_of_ble_eq_true rfl⟩) hS (fun q _ h => hFc q h) hFc (fun r160 u t H locs ht hvm w161 hB hz1 hk1 hS => ?_)
          obtain ⟨hP1, hD1⟩ := hB
          try dsimp only at w161
          obtain ⟨hPa, hDa⟩ := hJn (w1 := [(m0, .inr (11, oX11 ra y152)), (ra 13, .inl (kI, 700, .inl q_tape))]) hk1 ht hP1 hD1
          clear hP hD hPc hDc hFc hJn hP1 hD1 hk1
          have hP : va_P (dC, dI) vwCl [(ra 2, .inl (kI, 8, .inl q_told)), (ra 3, .inl (kI, 24, .inl (upd q_kind (12 + (q_told 4)).toNatClampNeg r16))), (ra 4, .inl (kI, 24, .inl (upd q_salt (12 + (q_told 4)).toNatClampNeg r140))), (ra 5, .inl (kI, 24, .inl (upd q_pace (12 + (q_told 4)).toNatClampNeg r150))), (ra 6, .inl (kI, 24, .inl q_mute)), (ra 7, .inl (kI, 24, .inl q_late)), (ra 1, .inl (kS, 4, .inr (.inr (.inr (.inr q_kinds))))), (m0, .inr (11, oX11 ra y152)), (ra 13, .inl (kI, 700, .inl q_tape))] H := hPa
          have hD : va_D A [(ra 2, .inl (kI, 8, .inl q_told)), (ra 3, .inl (kI, 24, .inl (upd q_kind (12 + (q_told 4)).toNatClampNeg r16))), (ra 4, .inl (kI, 24, .inl (upd q_salt (12 + (q_told 4)).toNatClampNeg r140))), (ra 5, .inl (kI, 24, .inl (upd q_pace (12 + (q_told 4)).toNatClampNeg r150))), (ra 6, .inl (kI, 24, .inl q_mute)), (ra 7, .inl (kI, 24, .inl q_late)), (ra 1, .inl (kS, 4, .inr (.inr (.inr (.inr q_kinds))))), (m0, .inr (11, oX11 ra y152)), (ra 13, .inl (kI, 700, .inl q_tape))] := hDa
          clear hPa hDa
          refine W.widen (k := 0) (n := 0) (Nat.le_of_ble_eq_true rfl) (Nat.le_of_ble_eq_true rfl) ?_
          obtain ⟨w161, b162⟩ := w161
          subst w161
          refine lv_if_eq (tgt := 119) hx hb dX11_readRouter_112 rfl (fun c163 => ?_) (fun c163 => ?_)
          · have b164 : iv 0 0 (wS tT 8 (rtr4 tT nN sS)) := iv_eqL c163 ivk_0
            refine lv_iconst (v := 0) hx hb dX11_readRouter_119 ic_0 ?_
            refine va_iast hx hb hK hP hD hS 4 1 rfl rfl (iv_in b15 (by decide) (by decide)) dX11_readRouter_120 (fun H locs hPa hDa hS => ?_)
            clear hP hD
            have hP : va_P (dC, dI) vwCl [(ra 2, .inl (kI, 8, .inl q_told)), (ra 3, .inl (kI, 24, .inl (upd q_kind (12 + (q_told 4)).toNatClampNeg r16))), (ra 4, .inl (kI, 24, .inl (upd q_salt (12 + (q_told 4)).toNatClampNeg r140))), (ra 5, .inl (kI, 24, .inl (upd q_pace (12 + (q_told 4)).toNatClampNeg r150))), (ra 6, .inl (kI, 24, .inl (upd q_mute (12 + (q_told 4)).toNatClampNeg 0))), (ra 7, .inl (kI, 24, .inl q_late)), (ra 1, .inl (kS, 4, .inr (.inr (.inr (.inr q_kinds))))), (m0, .inr (11, oX11 ra y152)), (ra 13, .inl (kI, 700, .inl q_tape))] H := hPa
            have hD : va_D A [(ra 2, .inl (kI, 8, .inl q_told)), (ra 3, .inl (kI, 24, .inl (upd q_kind (12 + (q_told 4)).toNatClampNeg r16))), (ra 4, .inl (kI, 24, .inl (upd q_salt (12 + (q_told 4)).toNatClampNeg r140))), (ra 5, .inl (kI, 24, .inl (upd q_pace (12 + (q_told 4)).toNatClampNeg r150))), (ra 6, .inl (kI, 24, .inl (upd q_mute (12 + (q_told 4)).toNatClampNeg 0))), (ra 7, .inl (kI, 24, .inl q_late)), (ra 1, .inl (kS, 4, .inr (.inr (.inr (.inr q_kinds))))), (m0, .inr (11, oX11 ra y152)), (ra 13, .inl (kI, 700, .inl q_tape))] := hDa
            clear hPa hDa
            refine lv_aload_n hx hb dX11_readRouter_121 rfl (lv_at hl 2 rfl) ?_
            refine va_get (D := (dC, dI)) (ci := 11) (v := .ref (ra 7)) (C := RX11) (T := TX11) (N := 61) hx hb hts hin11 hown hK hP 7 rfl rfl 8 (Nat.le_of_ble_eq_true rfl) hw_7 (fun _ h9 => h9) rfl dX11_readRouter_122 ?_
            refine lv_iload_n hx hb dX11_readRouter_125 rfl (lv_at hl 1 rfl) ?_
            refine lv_aload_n hx hb dX11_readRouter_126 rfl (lv_at hl 2 rfl) ?_
            refine va_ldcS hx hb hown hKL.2.2.2.2.2.2.2.2.2.2.2.2.2.2.2.2.2.2.2.2.2.2 dX11_readRouter_127 ?_
            obtain ⟨hPc, hDc, hFc, hJn⟩ := cl_a (wc := [(m0, .inr (11, oX11 ra y152)), (ra 13, .inl (kI, 700, .inl q_tape))]) (wr := [(ra 2, .inl (kI, 8, .inl q_told)), (ra 3, .inl (kI, 24, .inl (upd q_kind (12 + (q_told 4)).toNatClampNeg r16))), (ra 4, .inl (kI, 24, .inl (upd q_salt (12 + (q_told 4)).toNatClampNeg r140))), (ra 5, .inl (kI, 24, .inl (upd q_pace (12 + (q_told 4)).toNatClampNeg r150))), (ra 6, .inl (kI, 24, .inl (upd q_mute (12 + (q_told 4)).toNatClampNeg 0))), (ra 7, .inl (kI, 24, .inl q_late)), (ra 1, .inl (kS, 4, .inr (.inr (.inr (.inr q_kinds)))))]) hP hD hS hA [7, 8] [0, 1, 2, 3, 4, 5, 6] rfl rfl (by decide +kernel)
            refine va_calli (va_runV (As := [.ref (adK 9)]) (rest := [.int (12 + (q_told 4)), .ref (ra 7)]) ⟨hx, hb, hml, hown, hts⟩ (s11_is l dC dI kB kI kJ kZ kC kS H.size adK adV m0 ra y152 q_tape 9 tT nN (rtr4 tT nN sS) (hq153) (hq_tape) ((by decide)) (hrr159) (hTQ)) (cwV 1 hts gX11_readRouter_X11_is rfl rfl rfl (by decide +kernel) ⟨Nat.le_of_ble_eq_true rfl, Nat.le_of_ble_eq_true rfl⟩) ⟨fun a U g mk q => by obtain ⟨q0, q1, qP, qE, qD, qL⟩ := q; exact ⟨q0, q1, qP, kE_call qE, qD, kL_call qL⟩, va_recv hK hP (ci := 11) (q0 := 7) rfl rfl, fun U hU hW => ⟨rfl, by rw [hU], by rw [hU]; exact hPc, kE_warm hW hE, hDc.weaken (fun _ _ _ _ => trivial), kL_at hKL hS hFc hW hU⟩⟩ rfl rfl hl.1 rfl (lv_room (Nat.le_of_ble_eq_true rfl)) dX11_readRouter_129 ⟨Nat.le_of_ble_eq_true rfl, Nat.le_of_ble_eq_true rfl⟩) hS (fun q _ h => hFc q h) hFc (fun r165 u t H locs ht hvm w166 hB hz1 hk1 hS => ?_)
            obtain ⟨hP1, hD1⟩ := hB
            try dsimp only at w166
            obtain ⟨hPa, hDa⟩ := hJn (w1 := [(m0, .inr (11, oX11 ra y152)), (ra 13, .inl (kI, 700, .inl q_tape))]) hk1 ht hP1 hD1
            clear hP hD hPc hDc hFc hJn hP1 hD1 hk1
            have hP : va_P (dC, dI) vwCl [(ra 2, .inl (kI, 8, .inl q_told)), (ra 3, .inl (kI, 24, .inl (upd q_kind (12 + (q_told 4)).toNatClampNeg r16))), (ra 4, .inl (kI, 24, .inl (upd q_salt (12 + (q_told 4)).toNatClampNeg r140))), (ra 5, .inl (kI, 24, .inl (upd q_pace (12 + (q_told 4)).toNatClampNeg r150))), (ra 6, .inl (kI, 24, .inl (upd q_mute (12 + (q_told 4)).toNatClampNeg 0))), (ra 7, .inl (kI, 24, .inl q_late)), (ra 1, .inl (kS, 4, .inr (.inr (.inr (.inr q_kinds))))), (m0, .inr (11, oX11 ra y152)), (ra 13, .inl (kI, 700, .inl q_tape))] H := hPa
            have hD : va_D A [(ra 2, .inl (kI, 8, .inl q_told)), (ra 3, .inl (kI, 24, .inl (upd q_kind (12 + (q_told 4)).toNatClampNeg r16))), (ra 4, .inl (kI, 24, .inl (upd q_salt (12 + (q_told 4)).toNatClampNeg r140))), (ra 5, .inl (kI, 24, .inl (upd q_pace (12 + (q_told 4)).toNatClampNeg r150))), (ra 6, .inl (kI, 24, .inl (upd q_mute (12 + (q_told 4)).toNatClampNeg 0))), (ra 7, .inl (kI, 24, .inl q_late)), (ra 1, .inl (kS, 4, .inr (.inr (.inr (.inr q_kinds))))), (m0, .inr (11, oX11 ra y152)), (ra 13, .inl (kI, 700, .inl q_tape))] := hDa
            clear hPa hDa
            refine W.widen (k := 0) (n := 0) (Nat.le_of_ble_eq_true rfl) (Nat.le_of_ble_eq_true rfl) ?_
            obtain ⟨w166, b167⟩ := w166
            subst w166
            refine lv_if_eq (tgt := 139) hx hb dX11_readRouter_132 rfl (fun c168 => ?_) (fun c168 => ?_)
            · have b169 : iv 0 0 (wS tT 9 (rtr4 tT nN sS)) := iv_eqL c168 ivk_0
              refine lv_iconst (v := 0) hx hb dX11_readRouter_139 ic_0 ?_
              refine va_iast hx hb hK hP hD hS 5 1 rfl rfl (iv_in b15 (by decide) (by decide)) dX11_readRouter_140 (fun H locs hPa hDa hS => ?_)
              clear hP hD
              have hP : va_P (dC, dI) vwCl [(ra 2, .inl (kI, 8, .inl q_told)), (ra 3, .inl (kI, 24, .inl (upd q_kind (12 + (q_told 4)).toNatClampNeg r16))), (ra 4, .inl (kI, 24, .inl (upd q_salt (12 + (q_told 4)).toNatClampNeg r140))), (ra 5, .inl (kI, 24, .inl (upd q_pace (12 + (q_told 4)).toNatClampNeg r150))), (ra 6, .inl (kI, 24, .inl (upd q_mute (12 + (q_told 4)).toNatClampNeg 0))), (ra 7, .inl (kI, 24, .inl (upd q_late (12 + (q_told 4)).toNatClampNeg 0))), (ra 1, .inl (kS, 4, .inr (.inr (.inr (.inr q_kinds))))), (m0, .inr (11, oX11 ra y152)), (ra 13, .inl (kI, 700, .inl q_tape))] H := hPa
              have hD : va_D A [(ra 2, .inl (kI, 8, .inl q_told)), (ra 3, .inl (kI, 24, .inl (upd q_kind (12 + (q_told 4)).toNatClampNeg r16))), (ra 4, .inl (kI, 24, .inl (upd q_salt (12 + (q_told 4)).toNatClampNeg r140))), (ra 5, .inl (kI, 24, .inl (upd q_pace (12 + (q_told 4)).toNatClampNeg r150))), (ra 6, .inl (kI, 24, .inl (upd q_mute (12 + (q_told 4)).toNatClampNeg 0))), (ra 7, .inl (kI, 24, .inl (upd q_late (12 + (q_told 4)).toNatClampNeg 0))), (ra 1, .inl (kS, 4, .inr (.inr (.inr (.inr q_kinds))))), (m0, .inr (11, oX11 ra y152)), (ra 13, .inl (kI, 700, .inl q_tape))] := hDa
              clear hPa hDa
              refine lv_aload_n hx hb dX11_readRouter_141 rfl (lv_at hl 2 rfl) ?_
              refine va_get (D := (dC, dI)) (ci := 11) (v := .int (y152 8)) (C := RX11) (T := TX11) (N := 61) hx hb hts hin11 hown hK hP 7 rfl rfl 22 (Nat.le_of_ble_eq_true rfl) hw_1 (fun _ h9 => h9) rfl dX11_readRouter_142 ?_
              refine lv_if_ne (tgt := 168) hx hb dX11_readRouter_145 rfl (fun c170 => ?_) (fun c170 => ?_)
              · have b171 : iv 1 5 (y152 8) := iv_neLo c170 (hq153 8 : iv 0 5 (y152 8)) ivk_0 (by decide) (by decide)
                have hrr172 : RRd tT nN y152 (manT tT nN (rtr4 tT nN sS)) := (mq_b hrr159 c170) ▸ hrr159
                refine lv_aload_n hx hb dX11_readRouter_168 rfl (lv_at hl 2 rfl) ?_
                refine va_get (D := (dC, dI)) (ci := 11) (v := .ref (ra 2)) (C := RX11) (T := TX11) (N := 61) hx hb hts hin11 hown hK hP 7 rfl rfl 3 (Nat.le_of_ble_eq_true rfl) hw_0 (fun _ h9 => h9) rfl dX11_readRouter_169 ?_
                refine lv_iconst (v := 4) hx hb dX11_readRouter_172 ic_4 ?_
                refine lv_dup2_11 hx hb dX11_readRouter_173 rfl rfl ?_
                refine va_iald hx hb hK hP 0 1 rfl rfl (vp_in_nI (n := 4) (by decide) (by decide)) dX11_readRouter_174 ?_
                refine W.eq (g2 := F0 m 175 ls [.int (q_told 4), .int 4, .ref (ra 2)]) rfl ?_
                refine lv_iconst (v := 1) hx hb dX11_readRouter_175 ic_1 ?_
                refine lv_iadd hx hb dX11_readRouter_176 ?_
                have b173 : iv 1 12 ((q_told 4) + 1) := iv_add b2 ivk_1 (by decide) (by decide) (by decide) (by decide)
                refine va_iast hx hb hK hP hD hS 0 1 rfl rfl (vp_in_nI (n := 4) (by decide) (by decide)) dX11_readRouter_177 (fun H locs hPa hDa hS => ?_)
                clear hP hD
                have hP : va_P (dC, dI) vwCl [(ra 2, .inl (kI, 8, .inl (upd q_told 4 ((q_told 4) + 1)))), (ra 3, .inl (kI, 24, .inl (upd q_kind (12 + (q_told 4)).toNatClampNeg r16))), (ra 4, .inl (kI, 24, .inl (upd q_salt (12 + (q_told 4)).toNatClampNeg r140))), (ra 5, .inl (kI, 24, .inl (upd q_pace (12 + (q_told 4)).toNatClampNeg r150))), (ra 6, .inl (kI, 24, .inl (upd q_mute (12 + (q_told 4)).toNatClampNeg 0))), (ra 7, .inl (kI, 24, .inl (upd q_late (12 + (q_told 4)).toNatClampNeg 0))), (ra 1, .inl (kS, 4, .inr (.inr (.inr (.inr q_kinds))))), (m0, .inr (11, oX11 ra y152)), (ra 13, .inl (kI, 700, .inl q_tape))] H := hPa
                have hD : va_D A [(ra 2, .inl (kI, 8, .inl (upd q_told 4 ((q_told 4) + 1)))), (ra 3, .inl (kI, 24, .inl (upd q_kind (12 + (q_told 4)).toNatClampNeg r16))), (ra 4, .inl (kI, 24, .inl (upd q_salt (12 + (q_told 4)).toNatClampNeg r140))), (ra 5, .inl (kI, 24, .inl (upd q_pace (12 + (q_told 4)).toNatClampNeg r150))), (ra 6, .inl (kI, 24, .inl (upd q_mute (12 + (q_told 4)).toNatClampNeg 0))), (ra 7, .inl (kI, 24, .inl (upd q_late (12 + (q_told 4)).toNatClampNeg 0))), (ra 1, .inl (kS, 4, .inr (.inr (.inr (.inr q_kinds))))), (m0, .inr (11, oX11 ra y152)), (ra 13, .inl (kI, 700, .inl q_tape))] := hDa
                clear hPa hDa
                have hPD9 := cl_s (wc := [(m0, .inr (11, oX11 ra y152)), (ra 2, .inl (kI, 8, .inl (upd q_told 4 ((q_told 4) + 1)))), (ra 3, .inl (kI, 24, .inl (upd q_kind (12 + (q_told 4)).toNatClampNeg r16))), (ra 4, .inl (kI, 24, .inl (upd q_salt (12 + (q_told 4)).toNatClampNeg r140))), (ra 5, .inl (kI, 24, .inl (upd q_pace (12 + (q_told 4)).toNatClampNeg r150))), (ra 6, .inl (kI, 24, .inl (upd q_mute (12 + (q_told 4)).toNatClampNeg 0))), (ra 7, .inl (kI, 24, .inl (upd q_late (12 + (q_told 4)).toNatClampNeg 0))), (ra 13, .inl (kI, 700, .inl q_tape)), (ra 1, .inl (kS, 4, .inr (.inr (.inr (.inr q_kinds)))))]) hP hD [7, 0, 1, 2, 3, 4, 5, 8, 6] rfl (by decide +kernel)
                have hP9 := hPD9.1
                have hD9 := hPD9.2
                exact W.vret hx hb hr (fun t ht hW => ⟨⟨(), rfl, trivial, y152, upd q_told 4 ((q_told 4) + 1), upd q_kind (12 + (q_told 4)).toNatClampNeg r16, upd q_salt (12 + (q_told 4)).toNatClampNeg r140, upd q_pace (12 + (q_told 4)).toNatClampNeg r150, upd q_mute (12 + (q_told 4)).toNatClampNeg 0, upd q_late (12 + (q_told 4)).toNatClampNeg 0, hq153, (fI_u hq_told (k := 4) ((iv_w b173 (by decide) (by decide)))), (fI_u hq_salt (k := (12 + (q_told 4)).toNatClampNeg) (w141.1)), (show (x0 2).toInt ≤ (y152 2).toInt from by omega), (show y152 3 = x0 3 from hq155.trans (hq145.trans (hq134.trans (hq10)))), (show ∀ j : Nat, (j : Int) < (q_told 1).toInt → (q_from j).toInt < (q_to j).toInt from hLT), (show ∀ j : Nat, (j : Int) < (q_told 5).toInt → (q_from (20 + j)).toInt < (q_to (20 + j)).toInt from hLD), (show RRd tT nN y152 (rtrS tT nN sS (q_told 4)) from it_f (Q := RRd tT nN y152) c1 (hrr172)), fun w => absurd w c170, low_t (by decide), (show y152 1 = x0 1 from hq157.trans (hq147.trans (hq137.trans (hq13)))), (show y152 10 = x0 10 from hq158.trans (hq148.trans (hq138.trans (hq14)))), by rw [ht]; exact hP9, hD9⟩, hS.F ht⟩) hS.2.2 dX11_readRouter_178
              · have b174 : iv 0 0 (y152 8) := iv_eqL c170 ivk_0
                refine lv_aload_n hx hb dX11_readRouter_148 rfl (lv_at hl 2 rfl) ?_
                refine va_get (D := (dC, dI)) (ci := 11) (v := .ref (ra 6)) (C := RX11) (T := TX11) (N := 61) hx hb hts hin11 hown hK hP 7 rfl rfl 7 (Nat.le_of_ble_eq_true rfl) hw_6 (fun _ h9 => h9) rfl dX11_readRouter_149 ?_
                refine lv_iload_n hx hb dX11_readRouter_152 rfl (lv_at hl 1 rfl) ?_
                refine va_iald hx hb hK hP 4 1 rfl rfl (iv_in b15 (by decide) (by decide)) dX11_readRouter_153 ?_
                refine W.eq (g2 := F0 m 154 ls [.int 0]) (by rw [upd_eq]) ?_
                refine lv_aload_n hx hb dX11_readRouter_154 rfl (lv_at hl 2 rfl) ?_
                refine va_get (D := (dC, dI)) (ci := 11) (v := .ref (ra 7)) (C := RX11) (T := TX11) (N := 61) hx hb hts hin11 hown hK hP 7 rfl rfl 8 (Nat.le_of_ble_eq_true rfl) hw_7 (fun _ h9 => h9) rfl dX11_readRouter_155 ?_
                refine lv_iload_n hx hb dX11_readRouter_158 rfl (lv_at hl 1 rfl) ?_
                refine va_iald hx hb hK hP 5 1 rfl rfl (iv_in b15 (by decide) (by decide)) dX11_readRouter_159 ?_
                refine W.eq (g2 := F0 m 160 ls [.int 0, .int 0]) (by rw [upd_eq]) ?_
                refine lv_iadd hx hb dX11_readRouter_160 ?_
                refine lv_topi (fun z175 e176 => ?_)
                obtain rfl : z175 = (0 : Int32) := e176.trans (by decide)
                refine lv_if_le (tgt := 168) hx hb dX11_readRouter_161 rfl (fun _ => ?_) (fun c9 => absurd (by decide) c9)
                have hrr177 : RRd tT nN y152 (manT tT nN (rtr4 tT nN sS)) := (mq_0 hrr159 c170 c163 c168) ▸ hrr159
                refine lv_aload_n hx hb dX11_readRouter_168 rfl (lv_at hl 2 rfl) ?_
                refine va_get (D := (dC, dI)) (ci := 11) (v := .ref (ra 2)) (C := RX11) (T := TX11) (N := 61) hx hb hts hin11 hown hK hP 7 rfl rfl 3 (Nat.le_of_ble_eq_true rfl) hw_0 (fun _ h9 => h9) rfl dX11_readRouter_169 ?_
                refine lv_iconst (v := 4) hx hb dX11_readRouter_172 ic_4 ?_
                refine lv_dup2_11 hx hb dX11_readRouter_173 rfl rfl ?_
                refine va_iald hx hb hK hP 0 1 rfl rfl (vp_in_nI (n := 4) (by decide) (by decide)) dX11_readRouter_174 ?_
                refine W.eq (g2 := F0 m 175 ls [.int (q_told 4), .int 4, .ref (ra 2)]) rfl ?_
                refine lv_iconst (v := 1) hx hb dX11_readRouter_175 ic_1 ?_
                refine lv_iadd hx hb dX11_readRouter_176 ?_
                have b178 : iv 1 12 ((q_told 4) + 1) := iv_add b2 ivk_1 (by decide) (by decide) (by decide) (by decide)
                refine va_iast hx hb hK hP hD hS 0 1 rfl rfl (vp_in_nI (n := 4) (by decide) (by decide)) dX11_readRouter_177 (fun H locs hPa hDa hS => ?_)
                clear hP hD
                have hP : va_P (dC, dI) vwCl [(ra 2, .inl (kI, 8, .inl (upd q_told 4 ((q_told 4) + 1)))), (ra 3, .inl (kI, 24, .inl (upd q_kind (12 + (q_told 4)).toNatClampNeg r16))), (ra 4, .inl (kI, 24, .inl (upd q_salt (12 + (q_told 4)).toNatClampNeg r140))), (ra 5, .inl (kI, 24, .inl (upd q_pace (12 + (q_told 4)).toNatClampNeg r150))), (ra 6, .inl (kI, 24, .inl (upd q_mute (12 + (q_told 4)).toNatClampNeg 0))), (ra 7, .inl (kI, 24, .inl (upd q_late (12 + (q_told 4)).toNatClampNeg 0))), (ra 1, .inl (kS, 4, .inr (.inr (.inr (.inr q_kinds))))), (m0, .inr (11, oX11 ra y152)), (ra 13, .inl (kI, 700, .inl q_tape))] H := hPa
                have hD : va_D A [(ra 2, .inl (kI, 8, .inl (upd q_told 4 ((q_told 4) + 1)))), (ra 3, .inl (kI, 24, .inl (upd q_kind (12 + (q_told 4)).toNatClampNeg r16))), (ra 4, .inl (kI, 24, .inl (upd q_salt (12 + (q_told 4)).toNatClampNeg r140))), (ra 5, .inl (kI, 24, .inl (upd q_pace (12 + (q_told 4)).toNatClampNeg r150))), (ra 6, .inl (kI, 24, .inl (upd q_mute (12 + (q_told 4)).toNatClampNeg 0))), (ra 7, .inl (kI, 24, .inl (upd q_late (12 + (q_told 4)).toNatClampNeg 0))), (ra 1, .inl (kS, 4, .inr (.inr (.inr (.inr q_kinds))))), (m0, .inr (11, oX11 ra y152)), (ra 13, .inl (kI, 700, .inl q_tape))] := hDa
                clear hPa hDa
                have hPD9 := cl_s (wc := [(m0, .inr (11, oX11 ra y152)), (ra 2, .inl (kI, 8, .inl (upd q_told 4 ((q_told 4) + 1)))), (ra 3, .inl (kI, 24, .inl (upd q_kind (12 + (q_told 4)).toNatClampNeg r16))), (ra 4, .inl (kI, 24, .inl (upd q_salt (12 + (q_told 4)).toNatClampNeg r140))), (ra 5, .inl (kI, 24, .inl (upd q_pace (12 + (q_told 4)).toNatClampNeg r150))), (ra 6, .inl (kI, 24, .inl (upd q_mute (12 + (q_told 4)).toNatClampNeg 0))), (ra 7, .inl (kI, 24, .inl (upd q_late (12 + (q_told 4)).toNatClampNeg 0))), (ra 13, .inl (kI, 700, .inl q_tape)), (ra 1, .inl (kS, 4, .inr (.inr (.inr (.inr q_kinds)))))]) hP hD [7, 0, 1, 2, 3, 4, 5, 8, 6] rfl (by decide +kernel)
                have hP9 := hPD9.1
                have hD9 := hPD9.2
                exact W.vret hx hb hr (fun t ht hW => ⟨⟨(), rfl, trivial, y152, upd q_told 4 ((q_told 4) + 1), upd q_kind (12 + (q_told 4)).toNatClampNeg r16, upd q_salt (12 + (q_told 4)).toNatClampNeg r140, upd q_pace (12 + (q_told 4)).toNatClampNeg r150, upd q_mute (12 + (q_told 4)).toNatClampNeg 0, upd q_late (12 + (q_told 4)).toNatClampNeg 0, hq153, (fI_u hq_told (k := 4) ((iv_w b178 (by decide) (by decide)))), (fI_u hq_salt (k := (12 + (q_told 4)).toNatClampNeg) (w141.1)), (show (x0 2).toInt ≤ (y152 2).toInt from by omega), (show y152 3 = x0 3 from hq155.trans (hq145.trans (hq134.trans (hq10)))), (show ∀ j : Nat, (j : Int) < (q_told 1).toInt → (q_from j).toInt < (q_to j).toInt from hLT), (show ∀ j : Nat, (j : Int) < (q_told 5).toInt → (q_from (20 + j)).toInt < (q_to (20 + j)).toInt from hLD), (show RRd tT nN y152 (rtrS tT nN sS (q_told 4)) from it_f (Q := RRd tT nN y152) c1 (hrr177)), fun _ => ⟨rfl, congrArg (upd q_kind ((12 + (q_told 4)).toNatClampNeg)) ((kq_y hwk c18).2 (ok_next (ok_num (ok_next (ok_num (ok_next (rr_ok hrr159 c170))))))), congrArg (upd q_salt ((12 + (q_told 4)).toNatClampNeg)) (hv2 (ok_next (ok_num (ok_next (rr_ok hrr159 c170))))), congrArg (upd q_pace ((12 + (q_told 4)).toNatClampNeg)) (hv3 (ok_next (rr_ok hrr159 c170))), congrArg (upd q_mute ((12 + (q_told 4)).toNatClampNeg)) c163.symm, congrArg (upd q_late ((12 + (q_told 4)).toNatClampNeg)) c168.symm⟩, low_t (by decide), (show y152 1 = x0 1 from hq157.trans (hq147.trans (hq137.trans (hq13)))), (show y152 10 = x0 10 from hq158.trans (hq148.trans (hq138.trans (hq14)))), by rw [ht]; exact hP9, hD9⟩, hS.F ht⟩) hS.2.2 dX11_readRouter_178
            · have b179 : iv 1 1 (wS tT 9 (rtr4 tT nN sS)) := iv_neLo c168 b167 ivk_0 (by decide) (by decide)
              refine lv_iconst (v := 1) hx hb dX11_readRouter_135 ic_1 ?_
              refine lv_goto (tgt := 140) hx hb dX11_readRouter_136 rfl ?_
              refine va_iast hx hb hK hP hD hS 5 1 rfl rfl (iv_in b15 (by decide) (by decide)) dX11_readRouter_140 (fun H locs hPa hDa hS => ?_)
              clear hP hD
              have hP : va_P (dC, dI) vwCl [(ra 2, .inl (kI, 8, .inl q_told)), (ra 3, .inl (kI, 24, .inl (upd q_kind (12 + (q_told 4)).toNatClampNeg r16))), (ra 4, .inl (kI, 24, .inl (upd q_salt (12 + (q_told 4)).toNatClampNeg r140))), (ra 5, .inl (kI, 24, .inl (upd q_pace (12 + (q_told 4)).toNatClampNeg r150))), (ra 6, .inl (kI, 24, .inl (upd q_mute (12 + (q_told 4)).toNatClampNeg 0))), (ra 7, .inl (kI, 24, .inl (upd q_late (12 + (q_told 4)).toNatClampNeg 1))), (ra 1, .inl (kS, 4, .inr (.inr (.inr (.inr q_kinds))))), (m0, .inr (11, oX11 ra y152)), (ra 13, .inl (kI, 700, .inl q_tape))] H := hPa
              have hD : va_D A [(ra 2, .inl (kI, 8, .inl q_told)), (ra 3, .inl (kI, 24, .inl (upd q_kind (12 + (q_told 4)).toNatClampNeg r16))), (ra 4, .inl (kI, 24, .inl (upd q_salt (12 + (q_told 4)).toNatClampNeg r140))), (ra 5, .inl (kI, 24, .inl (upd q_pace (12 + (q_told 4)).toNatClampNeg r150))), (ra 6, .inl (kI, 24, .inl (upd q_mute (12 + (q_told 4)).toNatClampNeg 0))), (ra 7, .inl (kI, 24, .inl (upd q_late (12 + (q_told 4)).toNatClampNeg 1))), (ra 1, .inl (kS, 4, .inr (.inr (.inr (.inr q_kinds))))), (m0, .inr (11, oX11 ra y152)), (ra 13, .inl (kI, 700, .inl q_tape))] := hDa
              clear hPa hDa
              refine lv_aload_n hx hb dX11_readRouter_141 rfl (lv_at hl 2 rfl) ?_
              refine va_get (D := (dC, dI)) (ci := 11) (v := .int (y152 8)) (C := RX11) (T := TX11) (N := 61) hx hb hts hin11 hown hK hP 7 rfl rfl 22 (Nat.le_of_ble_eq_true rfl) hw_1 (fun _ h9 => h9) rfl dX11_readRouter_142 ?_
              refine lv_if_ne (tgt := 168) hx hb dX11_readRouter_145 rfl (fun c180 => ?_) (fun c180 => ?_)
              · have b181 : iv 1 5 (y152 8) := iv_neLo c180 (hq153 8 : iv 0 5 (y152 8)) ivk_0 (by decide) (by decide)
                have hrr182 : RRd tT nN y152 (manT tT nN (rtr4 tT nN sS)) := (mq_b hrr159 c180) ▸ hrr159
                refine lv_aload_n hx hb dX11_readRouter_168 rfl (lv_at hl 2 rfl) ?_
                refine va_get (D := (dC, dI)) (ci := 11) (v := .ref (ra 2)) (C := RX11) (T := TX11) (N := 61) hx hb hts hin11 hown hK hP 7 rfl rfl 3 (Nat.le_of_ble_eq_true rfl) hw_0 (fun _ h9 => h9) rfl dX11_readRouter_169 ?_
                refine lv_iconst (v := 4) hx hb dX11_readRouter_172 ic_4 ?_
                refine lv_dup2_11 hx hb dX11_readRouter_173 rfl rfl ?_
                refine va_iald hx hb hK hP 0 1 rfl rfl (vp_in_nI (n := 4) (by decide) (by decide)) dX11_readRouter_174 ?_
                refine W.eq (g2 := F0 m 175 ls [.int (q_told 4), .int 4, .ref (ra 2)]) rfl ?_
                refine lv_iconst (v := 1) hx hb dX11_readRouter_175 ic_1 ?_
                refine lv_iadd hx hb dX11_readRouter_176 ?_
                have b183 : iv 1 12 ((q_told 4) + 1) := iv_add b2 ivk_1 (by decide) (by decide) (by decide) (by decide)
                refine va_iast hx hb hK hP hD hS 0 1 rfl rfl (vp_in_nI (n := 4) (by decide) (by decide)) dX11_readRouter_177 (fun H locs hPa hDa hS => ?_)
                clear hP hD
                have hP : va_P (dC, dI) vwCl [(ra 2, .inl (kI, 8, .inl (upd q_told 4 ((q_told 4) + 1)))), (ra 3, .inl (kI, 24, .inl (upd q_kind (12 + (q_told 4)).toNatClampNeg r16))), (ra 4, .inl (kI, 24, .inl (upd q_salt (12 + (q_told 4)).toNatClampNeg r140))), (ra 5, .inl (kI, 24, .inl (upd q_pace (12 + (q_told 4)).toNatClampNeg r150))), (ra 6, .inl (kI, 24, .inl (upd q_mute (12 + (q_told 4)).toNatClampNeg 0))), (ra 7, .inl (kI, 24, .inl (upd q_late (12 + (q_told 4)).toNatClampNeg 1))), (ra 1, .inl (kS, 4, .inr (.inr (.inr (.inr q_kinds))))), (m0, .inr (11, oX11 ra y152)), (ra 13, .inl (kI, 700, .inl q_tape))] H := hPa
                have hD : va_D A [(ra 2, .inl (kI, 8, .inl (upd q_told 4 ((q_told 4) + 1)))), (ra 3, .inl (kI, 24, .inl (upd q_kind (12 + (q_told 4)).toNatClampNeg r16))), (ra 4, .inl (kI, 24, .inl (upd q_salt (12 + (q_told 4)).toNatClampNeg r140))), (ra 5, .inl (kI, 24, .inl (upd q_pace (12 + (q_told 4)).toNatClampNeg r150))), (ra 6, .inl (kI, 24, .inl (upd q_mute (12 + (q_told 4)).toNatClampNeg 0))), (ra 7, .inl (kI, 24, .inl (upd q_late (12 + (q_told 4)).toNatClampNeg 1))), (ra 1, .inl (kS, 4, .inr (.inr (.inr (.inr q_kinds))))), (m0, .inr (11, oX11 ra y152)), (ra 13, .inl (kI, 700, .inl q_tape))] := hDa
                clear hPa hDa
                have hPD9 := cl_s (wc := [(m0, .inr (11, oX11 ra y152)), (ra 2, .inl (kI, 8, .inl (upd q_told 4 ((q_told 4) + 1)))), (ra 3, .inl (kI, 24, .inl (upd q_kind (12 + (q_told 4)).toNatClampNeg r16))), (ra 4, .inl (kI, 24, .inl (upd q_salt (12 + (q_told 4)).toNatClampNeg r140))), (ra 5, .inl (kI, 24, .inl (upd q_pace (12 + (q_told 4)).toNatClampNeg r150))), (ra 6, .inl (kI, 24, .inl (upd q_mute (12 + (q_told 4)).toNatClampNeg 0))), (ra 7, .inl (kI, 24, .inl (upd q_late (12 + (q_told 4)).toNatClampNeg 1))), (ra 13, .inl (kI, 700, .inl q_tape)), (ra 1, .inl (kS, 4, .inr (.inr (.inr (.inr q_kinds)))))]) hP hD [7, 0, 1, 2, 3, 4, 5, 8, 6] rfl (by decide +kernel)
                have hP9 := hPD9.1
                have hD9 := hPD9.2
                exact W.vret hx hb hr (fun t ht hW => ⟨⟨(), rfl, trivial, y152, upd q_told 4 ((q_told 4) + 1), upd q_kind (12 + (q_told 4)).toNatClampNeg r16, upd q_salt (12 + (q_told 4)).toNatClampNeg r140, upd q_pace (12 + (q_told 4)).toNatClampNeg r150, upd q_mute (12 + (q_told 4)).toNatClampNeg 0, upd q_late (12 + (q_told 4)).toNatClampNeg 1, hq153, (fI_u hq_told (k := 4) ((iv_w b183 (by decide) (by decide)))), (fI_u hq_salt (k := (12 + (q_told 4)).toNatClampNeg) (w141.1)), (show (x0 2).toInt ≤ (y152 2).toInt from by omega), (show y152 3 = x0 3 from hq155.trans (hq145.trans (hq134.trans (hq10)))), (show ∀ j : Nat, (j : Int) < (q_told 1).toInt → (q_from j).toInt < (q_to j).toInt from hLT), (show ∀ j : Nat, (j : Int) < (q_told 5).toInt → (q_from (20 + j)).toInt < (q_to (20 + j)).toInt from hLD), (show RRd tT nN y152 (rtrS tT nN sS (q_told 4)) from it_f (Q := RRd tT nN y152) c1 (hrr182)), fun w => absurd w c180, low_t (by decide), (show y152 1 = x0 1 from hq157.trans (hq147.trans (hq137.trans (hq13)))), (show y152 10 = x0 10 from hq158.trans (hq148.trans (hq138.trans (hq14)))), by rw [ht]; exact hP9, hD9⟩, hS.F ht⟩) hS.2.2 dX11_readRouter_178
              · have b184 : iv 0 0 (y152 8) := iv_eqL c180 ivk_0
                refine lv_aload_n hx hb dX11_readRouter_148 rfl (lv_at hl 2 rfl) ?_
                refine va_get (D := (dC, dI)) (ci := 11) (v := .ref (ra 6)) (C := RX11) (T := TX11) (N := 61) hx hb hts hin11 hown hK hP 7 rfl rfl 7 (Nat.le_of_ble_eq_true rfl) hw_6 (fun _ h9 => h9) rfl dX11_readRouter_149 ?_
                refine lv_iload_n hx hb dX11_readRouter_152 rfl (lv_at hl 1 rfl) ?_
                refine va_iald hx hb hK hP 4 1 rfl rfl (iv_in b15 (by decide) (by decide)) dX11_readRouter_153 ?_
                refine W.eq (g2 := F0 m 154 ls [.int 0]) (by rw [upd_eq]) ?_
                refine lv_aload_n hx hb dX11_readRouter_154 rfl (lv_at hl 2 rfl) ?_
                refine va_get (D := (dC, dI)) (ci := 11) (v := .ref (ra 7)) (C := RX11) (T := TX11) (N := 61) hx hb hts hin11 hown hK hP 7 rfl rfl 8 (Nat.le_of_ble_eq_true rfl) hw_7 (fun _ h9 => h9) rfl dX11_readRouter_155 ?_
                refine lv_iload_n hx hb dX11_readRouter_158 rfl (lv_at hl 1 rfl) ?_
                refine va_iald hx hb hK hP 5 1 rfl rfl (iv_in b15 (by decide) (by decide)) dX11_readRouter_159 ?_
                refine W.eq (g2 := F0 m 160 ls [.int 1, .int 0]) (by rw [upd_eq]) ?_
                refine lv_iadd hx hb dX11_readRouter_160 ?_
                refine lv_topi (fun z185 e186 => ?_)
                obtain rfl : z185 = (1 : Int32) := e186.trans (by decide)
                refine lv_if_le (tgt := 168) hx hb dX11_readRouter_161 rfl (fun c9 => absurd c9 (by decide)) (fun _ => ?_)
                refine lv_aload_n hx hb dX11_readRouter_164 rfl (lv_at hl 2 rfl) ?_
                obtain ⟨hPc, hDc, hFc, hJn⟩ := cl_a (wc := [(m0, .inr (11, oX11 ra y152)), (ra 13, .inl (kI, 700, .inl q_tape))]) (wr := [(ra 2, .inl (kI, 8, .inl q_told)), (ra 3, .inl (kI, 24, .inl (upd q_kind (12 + (q_told 4)).toNatClampNeg r16))), (ra 4, .inl (kI, 24, .inl (upd q_salt (12 + (q_told 4)).toNatClampNeg r140))), (ra 5, .inl (kI, 24, .inl (upd q_pace (12 + (q_told 4)).toNatClampNeg r150))), (ra 6, .inl (kI, 24, .inl (upd q_mute (12 + (q_told 4)).toNatClampNeg 0))), (ra 7, .inl (kI, 24, .inl (upd q_late (12 + (q_told 4)).toNatClampNeg 1))), (ra 1, .inl (kS, 4, .inr (.inr (.inr (.inr q_kinds)))))]) hP hD hS hA [7, 8] [0, 1, 2, 3, 4, 5, 6] rfl rfl (by decide +kernel)
                refine va_callv (va_runV (As := []) (rest := []) ⟨hx, hb, hml, hown, hts⟩ (s11_stepOn l dC dI kB kI kJ kZ kC kS H.size m0 ra y152 q_tape tT nN (nextT tT nN (rtr4 tT nN sS)) (hq153) (hq_tape) (hrr159.2) (stp_of hrr159) (hTQ)) (cwV 0 hts gX11_readRouter_X11_stepOn rfl rfl rfl (by decide +kernel) ⟨Nat.le_of_ble_eq_true rfl, Nat.le_of_ble_eq_true rfl⟩) ⟨fun a U g mk q => by obtain ⟨q0, q1, qP, qE, qD⟩ := q; exact ⟨q0, q1, qP, kE_call qE, qD⟩, va_recv hK hP (ci := 11) (q0 := 7) rfl rfl, fun U hU hW => ⟨rfl, by rw [hU], by rw [hU]; exact hPc, kE_warm hW hE, hDc.weaken (fun _ _ _ _ => trivial)⟩⟩ rfl rfl hl.1 rfl (lv_room (Nat.le_of_ble_eq_true rfl)) dX11_readRouter_165 ⟨Nat.le_of_ble_eq_true rfl, Nat.le_of_ble_eq_true rfl⟩) hS (fun q _ h => hFc q h) hFc (fun u t H locs ht hvm w188 hB hz1 hk1 hS => ?_)
                obtain ⟨y189, hq190, hq191, hq192, hq193, hq194, hq195, hq196, hP1, hD1⟩ := hB
                try dsimp only at w188
                obtain ⟨hPa, hDa⟩ := hJn (w1 := [(m0, .inr (11, oX11 ra y189)), (ra 13, .inl (kI, 700, .inl q_tape))]) hk1 ht hP1 hD1
                clear hP hD hPc hDc hFc hJn hP1 hD1 hk1
                have hP : va_P (dC, dI) vwCl [(ra 2, .inl (kI, 8, .inl q_told)), (ra 3, .inl (kI, 24, .inl (upd q_kind (12 + (q_told 4)).toNatClampNeg r16))), (ra 4, .inl (kI, 24, .inl (upd q_salt (12 + (q_told 4)).toNatClampNeg r140))), (ra 5, .inl (kI, 24, .inl (upd q_pace (12 + (q_told 4)).toNatClampNeg r150))), (ra 6, .inl (kI, 24, .inl (upd q_mute (12 + (q_told 4)).toNatClampNeg 0))), (ra 7, .inl (kI, 24, .inl (upd q_late (12 + (q_told 4)).toNatClampNeg 1))), (ra 1, .inl (kS, 4, .inr (.inr (.inr (.inr q_kinds))))), (m0, .inr (11, oX11 ra y189)), (ra 13, .inl (kI, 700, .inl q_tape))] H := hPa
                have hD : va_D A [(ra 2, .inl (kI, 8, .inl q_told)), (ra 3, .inl (kI, 24, .inl (upd q_kind (12 + (q_told 4)).toNatClampNeg r16))), (ra 4, .inl (kI, 24, .inl (upd q_salt (12 + (q_told 4)).toNatClampNeg r140))), (ra 5, .inl (kI, 24, .inl (upd q_pace (12 + (q_told 4)).toNatClampNeg r150))), (ra 6, .inl (kI, 24, .inl (upd q_mute (12 + (q_told 4)).toNatClampNeg 0))), (ra 7, .inl (kI, 24, .inl (upd q_late (12 + (q_told 4)).toNatClampNeg 1))), (ra 1, .inl (kS, 4, .inr (.inr (.inr (.inr q_kinds))))), (m0, .inr (11, oX11 ra y189)), (ra 13, .inl (kI, 700, .inl q_tape))] := hDa
                clear hPa hDa
                refine W.widen (k := 0) (n := 0) (Nat.le_of_ble_eq_true rfl) (Nat.le_of_ble_eq_true rfl) ?_
                have hrr197 : RRd tT nN y189 (manT tT nN (rtr4 tT nN sS)) := (mq_s hrr159 c180 (Or.inr c168)) ▸ hq194
                refine lv_aload_n hx hb dX11_readRouter_168 rfl (lv_at hl 2 rfl) ?_
                refine va_get (D := (dC, dI)) (ci := 11) (v := .ref (ra 2)) (C := RX11) (T := TX11) (N := 61) hx hb hts hin11 hown hK hP 7 rfl rfl 3 (Nat.le_of_ble_eq_true rfl) hw_0 (fun _ h9 => h9) rfl dX11_readRouter_169 ?_
                refine lv_iconst (v := 4) hx hb dX11_readRouter_172 ic_4 ?_
                refine lv_dup2_11 hx hb dX11_readRouter_173 rfl rfl ?_
                refine va_iald hx hb hK hP 0 1 rfl rfl (vp_in_nI (n := 4) (by decide) (by decide)) dX11_readRouter_174 ?_
                refine W.eq (g2 := F0 m 175 ls [.int (q_told 4), .int 4, .ref (ra 2)]) rfl ?_
                refine lv_iconst (v := 1) hx hb dX11_readRouter_175 ic_1 ?_
                refine lv_iadd hx hb dX11_readRouter_176 ?_
                have b198 : iv 1 12 ((q_told 4) + 1) := iv_add b2 ivk_1 (by decide) (by decide) (by decide) (by decide)
                refine va_iast hx hb hK hP hD hS 0 1 rfl rfl (vp_in_nI (n := 4) (by decide) (by decide)) dX11_readRouter_177 (fun H locs hPa hDa hS => ?_)
                clear hP hD
                have hP : va_P (dC, dI) vwCl [(ra 2, .inl (kI, 8, .inl (upd q_told 4 ((q_told 4) + 1)))), (ra 3, .inl (kI, 24, .inl (upd q_kind (12 + (q_told 4)).toNatClampNeg r16))), (ra 4, .inl (kI, 24, .inl (upd q_salt (12 + (q_told 4)).toNatClampNeg r140))), (ra 5, .inl (kI, 24, .inl (upd q_pace (12 + (q_told 4)).toNatClampNeg r150))), (ra 6, .inl (kI, 24, .inl (upd q_mute (12 + (q_told 4)).toNatClampNeg 0))), (ra 7, .inl (kI, 24, .inl (upd q_late (12 + (q_told 4)).toNatClampNeg 1))), (ra 1, .inl (kS, 4, .inr (.inr (.inr (.inr q_kinds))))), (m0, .inr (11, oX11 ra y189)), (ra 13, .inl (kI, 700, .inl q_tape))] H := hPa
                have hD : va_D A [(ra 2, .inl (kI, 8, .inl (upd q_told 4 ((q_told 4) + 1)))), (ra 3, .inl (kI, 24, .inl (upd q_kind (12 + (q_told 4)).toNatClampNeg r16))), (ra 4, .inl (kI, 24, .inl (upd q_salt (12 + (q_told 4)).toNatClampNeg r140))), (ra 5, .inl (kI, 24, .inl (upd q_pace (12 + (q_told 4)).toNatClampNeg r150))), (ra 6, .inl (kI, 24, .inl (upd q_mute (12 + (q_told 4)).toNatClampNeg 0))), (ra 7, .inl (kI, 24, .inl (upd q_late (12 + (q_told 4)).toNatClampNeg 1))), (ra 1, .inl (kS, 4, .inr (.inr (.inr (.inr q_kinds))))), (m0, .inr (11, oX11 ra y189)), (ra 13, .inl (kI, 700, .inl q_tape))] := hDa
                clear hPa hDa
                have hPD9 := cl_s (wc := [(m0, .inr (11, oX11 ra y189)), (ra 2, .inl (kI, 8, .inl (upd q_told 4 ((q_told 4) + 1)))), (ra 3, .inl (kI, 24, .inl (upd q_kind (12 + (q_told 4)).toNatClampNeg r16))), (ra 4, .inl (kI, 24, .inl (upd q_salt (12 + (q_told 4)).toNatClampNeg r140))), (ra 5, .inl (kI, 24, .inl (upd q_pace (12 + (q_told 4)).toNatClampNeg r150))), (ra 6, .inl (kI, 24, .inl (upd q_mute (12 + (q_told 4)).toNatClampNeg 0))), (ra 7, .inl (kI, 24, .inl (upd q_late (12 + (q_told 4)).toNatClampNeg 1))), (ra 13, .inl (kI, 700, .inl q_tape)), (ra 1, .inl (kS, 4, .inr (.inr (.inr (.inr q_kinds)))))]) hP hD [7, 0, 1, 2, 3, 4, 5, 8, 6] rfl (by decide +kernel)
                have hP9 := hPD9.1
                have hD9 := hPD9.2
                exact W.vret hx hb hr (fun t ht hW => ⟨⟨(), rfl, trivial, y189, upd q_told 4 ((q_told 4) + 1), upd q_kind (12 + (q_told 4)).toNatClampNeg r16, upd q_salt (12 + (q_told 4)).toNatClampNeg r140, upd q_pace (12 + (q_told 4)).toNatClampNeg r150, upd q_mute (12 + (q_told 4)).toNatClampNeg 0, upd q_late (12 + (q_told 4)).toNatClampNeg 1, hq190, (fI_u hq_told (k := 4) ((iv_w b198 (by decide) (by decide)))), (fI_u hq_salt (k := (12 + (q_told 4)).toNatClampNeg) (w141.1)), (show (x0 2).toInt ≤ (y189 2).toInt from by omega), (show y189 3 = x0 3 from hq192.trans (hq155.trans (hq145.trans (hq134.trans (hq10))))), (show ∀ j : Nat, (j : Int) < (q_told 1).toInt → (q_from j).toInt < (q_to j).toInt from hLT), (show ∀ j : Nat, (j : Int) < (q_told 5).toInt → (q_from (20 + j)).toInt < (q_to (20 + j)).toInt from hLD), (show RRd tT nN y189 (rtrS tT nN sS (q_told 4)) from it_f (Q := RRd tT nN y189) c1 (hrr197)), fun _ => ⟨rfl, congrArg (upd q_kind ((12 + (q_told 4)).toNatClampNeg)) ((kq_y hwk c18).2 (ok_next (ok_num (ok_next (ok_num (ok_next (rr_ok hrr159 c180))))))), congrArg (upd q_salt ((12 + (q_told 4)).toNatClampNeg)) (hv2 (ok_next (ok_num (ok_next (rr_ok hrr159 c180))))), congrArg (upd q_pace ((12 + (q_told 4)).toNatClampNeg)) (hv3 (ok_next (rr_ok hrr159 c180))), congrArg (upd q_mute ((12 + (q_told 4)).toNatClampNeg)) c163.symm, congrArg (upd q_late ((12 + (q_told 4)).toNatClampNeg)) (wS_1 c168)⟩, low_t (by decide), (show y189 1 = x0 1 from hq195.trans (hq157.trans (hq147.trans (hq137.trans (hq13))))), (show y189 10 = x0 10 from hq196.trans (hq158.trans (hq148.trans (hq138.trans (hq14))))), by rw [ht]; exact hP9, hD9⟩, hS.F ht⟩) hS.2.2 dX11_readRouter_178
          · have b199 : iv 1 1 (wS tT 8 (rtr4 tT nN sS)) := iv_neLo c163 b162 ivk_0 (by decide) (by decide)
            refine lv_iconst (v := 1) hx hb dX11_readRouter_115 ic_1 ?_
            refine lv_goto (tgt := 120) hx hb dX11_readRouter_116 rfl ?_
            refine va_iast hx hb hK hP hD hS 4 1 rfl rfl (iv_in b15 (by decide) (by decide)) dX11_readRouter_120 (fun H locs hPa hDa hS => ?_)
            clear hP hD
            have hP : va_P (dC, dI) vwCl [(ra 2, .inl (kI, 8, .inl q_told)), (ra 3, .inl (kI, 24, .inl (upd q_kind (12 + (q_told 4)).toNatClampNeg r16))), (ra 4, .inl (kI, 24, .inl (upd q_salt (12 + (q_told 4)).toNatClampNeg r140))), (ra 5, .inl (kI, 24, .inl (upd q_pace (12 + (q_told 4)).toNatClampNeg r150))), (ra 6, .inl (kI, 24, .inl (upd q_mute (12 + (q_told 4)).toNatClampNeg 1))), (ra 7, .inl (kI, 24, .inl q_late)), (ra 1, .inl (kS, 4, .inr (.inr (.inr (.inr q_kinds))))), (m0, .inr (11, oX11 ra y152)), (ra 13, .inl (kI, 700, .inl q_tape))] H := hPa
            have hD : va_D A [(ra 2, .inl (kI, 8, .inl q_told)), (ra 3, .inl (kI, 24, .inl (upd q_kind (12 + (q_told 4)).toNatClampNeg r16))), (ra 4, .inl (kI, 24, .inl (upd q_salt (12 + (q_told 4)).toNatClampNeg r140))), (ra 5, .inl (kI, 24, .inl (upd q_pace (12 + (q_told 4)).toNatClampNeg r150))), (ra 6, .inl (kI, 24, .inl (upd q_mute (12 + (q_told 4)).toNatClampNeg 1))), (ra 7, .inl (kI, 24, .inl q_late)), (ra 1, .inl (kS, 4, .inr (.inr (.inr (.inr q_kinds))))), (m0, .inr (11, oX11 ra y152)), (ra 13, .inl (kI, 700, .inl q_tape))] := hDa
            clear hPa hDa
            refine lv_aload_n hx hb dX11_readRouter_121 rfl (lv_at hl 2 rfl) ?_
            refine va_get (D := (dC, dI)) (ci := 11) (v := .ref (ra 7)) (C := RX11) (T := TX11) (N := 61) hx hb hts hin11 hown hK hP 7 rfl rfl 8 (Nat.le_of_ble_eq_true rfl) hw_7 (fun _ h9 => h9) rfl dX11_readRouter_122 ?_
            refine lv_iload_n hx hb dX11_readRouter_125 rfl (lv_at hl 1 rfl) ?_
            refine lv_aload_n hx hb dX11_readRouter_126 rfl (lv_at hl 2 rfl) ?_
            refine va_ldcS hx hb hown hKL.2.2.2.2.2.2.2.2.2.2.2.2.2.2.2.2.2.2.2.2.2.2 dX11_readRouter_127 ?_
            obtain ⟨hPc, hDc, hFc, hJn⟩ := cl_a (wc := [(m0, .inr (11, oX11 ra y152)), (ra 13, .inl (kI, 700, .inl q_tape))]) (wr := [(ra 2, .inl (kI, 8, .inl q_told)), (ra 3, .inl (kI, 24, .inl (upd q_kind (12 + (q_told 4)).toNatClampNeg r16))), (ra 4, .inl (kI, 24, .inl (upd q_salt (12 + (q_told 4)).toNatClampNeg r140))), (ra 5, .inl (kI, 24, .inl (upd q_pace (12 + (q_told 4)).toNatClampNeg r150))), (ra 6, .inl (kI, 24, .inl (upd q_mute (12 + (q_told 4)).toNatClampNeg 1))), (ra 7, .inl (kI, 24, .inl q_late)), (ra 1, .inl (kS, 4, .inr (.inr (.inr (.inr q_kinds)))))]) hP hD hS hA [7, 8] [0, 1, 2, 3, 4, 5, 6] rfl rfl (by decide +kernel)
            refine va_calli (va_runV (As := [.ref (adK 9)]) (rest := [.int (12 + (q_told 4)), .ref (ra 7)]) ⟨hx, hb, hml, hown, hts⟩ (s11_is l dC dI kB kI kJ kZ kC kS H.size adK adV m0 ra y152 q_tape 9 tT nN (rtr4 tT nN sS) (hq153) (hq_tape) ((by decide)) (hrr159) (hTQ)) (cwV 1 hts gX11_readRouter_X11_is rfl rfl rfl (by decide +kernel) ⟨Nat.le_of_ble_eq_true rfl, Nat.le_of_ble_eq_true rfl⟩) ⟨fun a U g mk q => by obtain ⟨q0, q1, qP, qE, qD, qL⟩ := q; exact ⟨q0, q1, qP, kE_call qE, qD, kL_call qL⟩, va_recv hK hP (ci := 11) (q0 := 7) rfl rfl, fun U hU hW => ⟨rfl, by rw [hU], by rw [hU]; exact hPc, kE_warm hW hE, hDc.weaken (fun _ _ _ _ => trivial), kL_at hKL hS hFc hW hU⟩⟩ rfl rfl hl.1 rfl (lv_room (Nat.le_of_ble_eq_true rfl)) dX11_readRouter_129 ⟨Nat.le_of_ble_eq_true rfl, Nat.le_of_ble_eq_true rfl⟩) hS (fun q _ h => hFc q h) hFc (fun r200 u t H locs ht hvm w201 hB hz1 hk1 hS => ?_)
            obtain ⟨hP1, hD1⟩ := hB
            try dsimp only at w201
            obtain ⟨hPa, hDa⟩ := hJn (w1 := [(m0, .inr (11, oX11 ra y152)), (ra 13, .inl (kI, 700, .inl q_tape))]) hk1 ht hP1 hD1
            clear hP hD hPc hDc hFc hJn hP1 hD1 hk1
            have hP : va_P (dC, dI) vwCl [(ra 2, .inl (kI, 8, .inl q_told)), (ra 3, .inl (kI, 24, .inl (upd q_kind (12 + (q_told 4)).toNatClampNeg r16))), (ra 4, .inl (kI, 24, .inl (upd q_salt (12 + (q_told 4)).toNatClampNeg r140))), (ra 5, .inl (kI, 24, .inl (upd q_pace (12 + (q_told 4)).toNatClampNeg r150))), (ra 6, .inl (kI, 24, .inl (upd q_mute (12 + (q_told 4)).toNatClampNeg 1))), (ra 7, .inl (kI, 24, .inl q_late)), (ra 1, .inl (kS, 4, .inr (.inr (.inr (.inr q_kinds))))), (m0, .inr (11, oX11 ra y152)), (ra 13, .inl (kI, 700, .inl q_tape))] H := hPa
            have hD : va_D A [(ra 2, .inl (kI, 8, .inl q_told)), (ra 3, .inl (kI, 24, .inl (upd q_kind (12 + (q_told 4)).toNatClampNeg r16))), (ra 4, .inl (kI, 24, .inl (upd q_salt (12 + (q_told 4)).toNatClampNeg r140))), (ra 5, .inl (kI, 24, .inl (upd q_pace (12 + (q_told 4)).toNatClampNeg r150))), (ra 6, .inl (kI, 24, .inl (upd q_mute (12 + (q_told 4)).toNatClampNeg 1))), (ra 7, .inl (kI, 24, .inl q_late)), (ra 1, .inl (kS, 4, .inr (.inr (.inr (.inr q_kinds))))), (m0, .inr (11, oX11 ra y152)), (ra 13, .inl (kI, 700, .inl q_tape))] := hDa
            clear hPa hDa
            refine W.widen (k := 0) (n := 0) (Nat.le_of_ble_eq_true rfl) (Nat.le_of_ble_eq_true rfl) ?_
            obtain ⟨w201, b202⟩ := w201
            subst w201
            refine lv_if_eq (tgt := 139) hx hb dX11_readRouter_132 rfl (fun c203 => ?_) (fun c203 => ?_)
            · have b204 : iv 0 0 (wS tT 9 (rtr4 tT nN sS)) := iv_eqL c203 ivk_0
              refine lv_iconst (v := 0) hx hb dX11_readRouter_139 ic_0 ?_
              refine va_iast hx hb hK hP hD hS 5 1 rfl rfl (iv_in b15 (by decide) (by decide)) dX11_readRouter_140 (fun H locs hPa hDa hS => ?_)
              clear hP hD
              have hP : va_P (dC, dI) vwCl [(ra 2, .inl (kI, 8, .inl q_told)), (ra 3, .inl (kI, 24, .inl (upd q_kind (12 + (q_told 4)).toNatClampNeg r16))), (ra 4, .inl (kI, 24, .inl (upd q_salt (12 + (q_told 4)).toNatClampNeg r140))), (ra 5, .inl (kI, 24, .inl (upd q_pace (12 + (q_told 4)).toNatClampNeg r150))), (ra 6, .inl (kI, 24, .inl (upd q_mute (12 + (q_told 4)).toNatClampNeg 1))), (ra 7, .inl (kI, 24, .inl (upd q_late (12 + (q_told 4)).toNatClampNeg 0))), (ra 1, .inl (kS, 4, .inr (.inr (.inr (.inr q_kinds))))), (m0, .inr (11, oX11 ra y152)), (ra 13, .inl (kI, 700, .inl q_tape))] H := hPa
              have hD : va_D A [(ra 2, .inl (kI, 8, .inl q_told)), (ra 3, .inl (kI, 24, .inl (upd q_kind (12 + (q_told 4)).toNatClampNeg r16))), (ra 4, .inl (kI, 24, .inl (upd q_salt (12 + (q_told 4)).toNatClampNeg r140))), (ra 5, .inl (kI, 24, .inl (upd q_pace (12 + (q_told 4)).toNatClampNeg r150))), (ra 6, .inl (kI, 24, .inl (upd q_mute (12 + (q_told 4)).toNatClampNeg 1))), (ra 7, .inl (kI, 24, .inl (upd q_late (12 + (q_told 4)).toNatClampNeg 0))), (ra 1, .inl (kS, 4, .inr (.inr (.inr (.inr q_kinds))))), (m0, .inr (11, oX11 ra y152)), (ra 13, .inl (kI, 700, .inl q_tape))] := hDa
              clear hPa hDa
              refine lv_aload_n hx hb dX11_readRouter_141 rfl (lv_at hl 2 rfl) ?_
              refine va_get (D := (dC, dI)) (ci := 11) (v := .int (y152 8)) (C := RX11) (T := TX11) (N := 61) hx hb hts hin11 hown hK hP 7 rfl rfl 22 (Nat.le_of_ble_eq_true rfl) hw_1 (fun _ h9 => h9) rfl dX11_readRouter_142 ?_
              refine lv_if_ne (tgt := 168) hx hb dX11_readRouter_145 rfl (fun c205 => ?_) (fun c205 => ?_)
              · have b206 : iv 1 5 (y152 8) := iv_neLo c205 (hq153 8 : iv 0 5 (y152 8)) ivk_0 (by decide) (by decide)
                have hrr207 : RRd tT nN y152 (manT tT nN (rtr4 tT nN sS)) := (mq_b hrr159 c205) ▸ hrr159
                refine lv_aload_n hx hb dX11_readRouter_168 rfl (lv_at hl 2 rfl) ?_
                refine va_get (D := (dC, dI)) (ci := 11) (v := .ref (ra 2)) (C := RX11) (T := TX11) (N := 61) hx hb hts hin11 hown hK hP 7 rfl rfl 3 (Nat.le_of_ble_eq_true rfl) hw_0 (fun _ h9 => h9) rfl dX11_readRouter_169 ?_
                refine lv_iconst (v := 4) hx hb dX11_readRouter_172 ic_4 ?_
                refine lv_dup2_11 hx hb dX11_readRouter_173 rfl rfl ?_
                refine va_iald hx hb hK hP 0 1 rfl rfl (vp_in_nI (n := 4) (by decide) (by decide)) dX11_readRouter_174 ?_
                refine W.eq (g2 := F0 m 175 ls [.int (q_told 4), .int 4, .ref (ra 2)]) rfl ?_
                refine lv_iconst (v := 1) hx hb dX11_readRouter_175 ic_1 ?_
                refine lv_iadd hx hb dX11_readRouter_176 ?_
                have b208 : iv 1 12 ((q_told 4) + 1) := iv_add b2 ivk_1 (by decide) (by decide) (by decide) (by decide)
                refine va_iast hx hb hK hP hD hS 0 1 rfl rfl (vp_in_nI (n := 4) (by decide) (by decide)) dX11_readRouter_177 (fun H locs hPa hDa hS => ?_)
                clear hP hD
                have hP : va_P (dC, dI) vwCl [(ra 2, .inl (kI, 8, .inl (upd q_told 4 ((q_told 4) + 1)))), (ra 3, .inl (kI, 24, .inl (upd q_kind (12 + (q_told 4)).toNatClampNeg r16))), (ra 4, .inl (kI, 24, .inl (upd q_salt (12 + (q_told 4)).toNatClampNeg r140))), (ra 5, .inl (kI, 24, .inl (upd q_pace (12 + (q_told 4)).toNatClampNeg r150))), (ra 6, .inl (kI, 24, .inl (upd q_mute (12 + (q_told 4)).toNatClampNeg 1))), (ra 7, .inl (kI, 24, .inl (upd q_late (12 + (q_told 4)).toNatClampNeg 0))), (ra 1, .inl (kS, 4, .inr (.inr (.inr (.inr q_kinds))))), (m0, .inr (11, oX11 ra y152)), (ra 13, .inl (kI, 700, .inl q_tape))] H := hPa
                have hD : va_D A [(ra 2, .inl (kI, 8, .inl (upd q_told 4 ((q_told 4) + 1)))), (ra 3, .inl (kI, 24, .inl (upd q_kind (12 + (q_told 4)).toNatClampNeg r16))), (ra 4, .inl (kI, 24, .inl (upd q_salt (12 + (q_told 4)).toNatClampNeg r140))), (ra 5, .inl (kI, 24, .inl (upd q_pace (12 + (q_told 4)).toNatClampNeg r150))), (ra 6, .inl (kI, 24, .inl (upd q_mute (12 + (q_told 4)).toNatClampNeg 1))), (ra 7, .inl (kI, 24, .inl (upd q_late (12 + (q_told 4)).toNatClampNeg 0))), (ra 1, .inl (kS, 4, .inr (.inr (.inr (.inr q_kinds))))), (m0, .inr (11, oX11 ra y152)), (ra 13, .inl (kI, 700, .inl q_tape))] := hDa
                clear hPa hDa
                have hPD9 := cl_s (wc := [(m0, .inr (11, oX11 ra y152)), (ra 2, .inl (kI, 8, .inl (upd q_told 4 ((q_told 4) + 1)))), (ra 3, .inl (kI, 24, .inl (upd q_kind (12 + (q_told 4)).toNatClampNeg r16))), (ra 4, .inl (kI, 24, .inl (upd q_salt (12 + (q_told 4)).toNatClampNeg r140))), (ra 5, .inl (kI, 24, .inl (upd q_pace (12 + (q_told 4)).toNatClampNeg r150))), (ra 6, .inl (kI, 24, .inl (upd q_mute (12 + (q_told 4)).toNatClampNeg 1))), (ra 7, .inl (kI, 24, .inl (upd q_late (12 + (q_told 4)).toNatClampNeg 0))), (ra 13, .inl (kI, 700, .inl q_tape)), (ra 1, .inl (kS, 4, .inr (.inr (.inr (.inr q_kinds)))))]) hP hD [7, 0, 1, 2, 3, 4, 5, 8, 6] rfl (by decide +kernel)
                have hP9 := hPD9.1
                have hD9 := hPD9.2
                exact W.vret hx hb hr (fun t ht hW => ⟨⟨(), rfl, trivial, y152, upd q_told 4 ((q_told 4) + 1), upd q_kind (12 + (q_told 4)).toNatClampNeg r16, upd q_salt (12 + (q_told 4)).toNatClampNeg r140, upd q_pace (12 + (q_told 4)).toNatClampNeg r150, upd q_mute (12 + (q_told 4)).toNatClampNeg 1, upd q_late (12 + (q_told 4)).toNatClampNeg 0, hq153, (fI_u hq_told (k := 4) ((iv_w b208 (by decide) (by decide)))), (fI_u hq_salt (k := (12 + (q_told 4)).toNatClampNeg) (w141.1)), (show (x0 2).toInt ≤ (y152 2).toInt from by omega), (show y152 3 = x0 3 from hq155.trans (hq145.trans (hq134.trans (hq10)))), (show ∀ j : Nat, (j : Int) < (q_told 1).toInt → (q_from j).toInt < (q_to j).toInt from hLT), (show ∀ j : Nat, (j : Int) < (q_told 5).toInt → (q_from (20 + j)).toInt < (q_to (20 + j)).toInt from hLD), (show RRd tT nN y152 (rtrS tT nN sS (q_told 4)) from it_f (Q := RRd tT nN y152) c1 (hrr207)), fun w => absurd w c205, low_t (by decide), (show y152 1 = x0 1 from hq157.trans (hq147.trans (hq137.trans (hq13)))), (show y152 10 = x0 10 from hq158.trans (hq148.trans (hq138.trans (hq14)))), by rw [ht]; exact hP9, hD9⟩, hS.F ht⟩) hS.2.2 dX11_readRouter_178
              · have b209 : iv 0 0 (y152 8) := iv_eqL c205 ivk_0
                refine lv_aload_n hx hb dX11_readRouter_148 rfl (lv_at hl 2 rfl) ?_
                refine va_get (D := (dC, dI)) (ci := 11) (v := .ref (ra 6)) (C := RX11) (T := TX11) (N := 61) hx hb hts hin11 hown hK hP 7 rfl rfl 7 (Nat.le_of_ble_eq_true rfl) hw_6 (fun _ h9 => h9) rfl dX11_readRouter_149 ?_
                refine lv_iload_n hx hb dX11_readRouter_152 rfl (lv_at hl 1 rfl) ?_
                refine va_iald hx hb hK hP 4 1 rfl rfl (iv_in b15 (by decide) (by decide)) dX11_readRouter_153 ?_
                refine W.eq (g2 := F0 m 154 ls [.int 1]) (by rw [upd_eq]) ?_
                refine lv_aload_n hx hb dX11_readRouter_154 rfl (lv_at hl 2 rfl) ?_
                refine va_get (D := (dC, dI)) (ci := 11) (v := .ref (ra 7)) (C := RX11) (T := TX11) (N := 61) hx hb hts hin11 hown hK hP 7 rfl rfl 8 (Nat.le_of_ble_eq_true rfl) hw_7 (fun _ h9 => h9) rfl dX11_readRouter_155 ?_
                refine lv_iload_n hx hb dX11_readRouter_158 rfl (lv_at hl 1 rfl) ?_
                refine va_iald hx hb hK hP 5 1 rfl rfl (iv_in b15 (by decide) (by decide)) dX11_readRouter_159 ?_
                refine W.eq (g2 := F0 m 160 ls [.int 0, .int 1]) (by rw [upd_eq]) ?_
                refine lv_iadd hx hb dX11_readRouter_160 ?_
                refine lv_topi (fun z210 e211 => ?_)
                obtain rfl : z210 = (1 : Int32) := e211.trans (by decide)
                refine lv_if_le (tgt := 168) hx hb dX11_readRouter_161 rfl (fun c9 => absurd c9 (by decide)) (fun _ => ?_)
                refine lv_aload_n hx hb dX11_readRouter_164 rfl (lv_at hl 2 rfl) ?_
                obtain ⟨hPc, hDc, hFc, hJn⟩ := cl_a (wc := [(m0, .inr (11, oX11 ra y152)), (ra 13, .inl (kI, 700, .inl q_tape))]) (wr := [(ra 2, .inl (kI, 8, .inl q_told)), (ra 3, .inl (kI, 24, .inl (upd q_kind (12 + (q_told 4)).toNatClampNeg r16))), (ra 4, .inl (kI, 24, .inl (upd q_salt (12 + (q_told 4)).toNatClampNeg r140))), (ra 5, .inl (kI, 24, .inl (upd q_pace (12 + (q_told 4)).toNatClampNeg r150))), (ra 6, .inl (kI, 24, .inl (upd q_mute (12 + (q_told 4)).toNatClampNeg 1))), (ra 7, .inl (kI, 24, .inl (upd q_late (12 + (q_told 4)).toNatClampNeg 0))), (ra 1, .inl (kS, 4, .inr (.inr (.inr (.inr q_kinds)))))]) hP hD hS hA [7, 8] [0, 1, 2, 3, 4, 5, 6] rfl rfl (by decide +kernel)
                refine va_callv (va_runV (As := []) (rest := []) ⟨hx, hb, hml, hown, hts⟩ (s11_stepOn l dC dI kB kI kJ kZ kC kS H.size m0 ra y152 q_tape tT nN (nextT tT nN (rtr4 tT nN sS)) (hq153) (hq_tape) (hrr159.2) (stp_of hrr159) (hTQ)) (cwV 0 hts gX11_readRouter_X11_stepOn rfl rfl rfl (by decide +kernel) ⟨Nat.le_of_ble_eq_true rfl, Nat.le_of_ble_eq_true rfl⟩) ⟨fun a U g mk q => by obtain ⟨q0, q1, qP, qE, qD⟩ := q; exact ⟨q0, q1, qP, kE_call qE, qD⟩, va_recv hK hP (ci := 11) (q0 := 7) rfl rfl, fun U hU hW => ⟨rfl, by rw [hU], by rw [hU]; exact hPc, kE_warm hW hE, hDc.weaken (fun _ _ _ _ => trivial)⟩⟩ rfl rfl hl.1 rfl (lv_room (Nat.le_of_ble_eq_true rfl)) dX11_readRouter_165 ⟨Nat.le_of_ble_eq_true rfl, Nat.le_of_ble_eq_true rfl⟩) hS (fun q _ h => hFc q h) hFc (fun u t H locs ht hvm w213 hB hz1 hk1 hS => ?_)
                obtain ⟨y214, hq215, hq216, hq217, hq218, hq219, hq220, hq221, hP1, hD1⟩ := hB
                try dsimp only at w213
                obtain ⟨hPa, hDa⟩ := hJn (w1 := [(m0, .inr (11, oX11 ra y214)), (ra 13, .inl (kI, 700, .inl q_tape))]) hk1 ht hP1 hD1
                clear hP hD hPc hDc hFc hJn hP1 hD1 hk1
                have hP : va_P (dC, dI) vwCl [(ra 2, .inl (kI, 8, .inl q_told)), (ra 3, .inl (kI, 24, .inl (upd q_kind (12 + (q_told 4)).toNatClampNeg r16))), (ra 4, .inl (kI, 24, .inl (upd q_salt (12 + (q_told 4)).toNatClampNeg r140))), (ra 5, .inl (kI, 24, .inl (upd q_pace (12 + (q_told 4)).toNatClampNeg r150))), (ra 6, .inl (kI, 24, .inl (upd q_mute (12 + (q_told 4)).toNatClampNeg 1))), (ra 7, .inl (kI, 24, .inl (upd q_late (12 + (q_told 4)).toNatClampNeg 0))), (ra 1, .inl (kS, 4, .inr (.inr (.inr (.inr q_kinds))))), (m0, .inr (11, oX11 ra y214)), (ra 13, .inl (kI, 700, .inl q_tape))] H := hPa
                have hD : va_D A [(ra 2, .inl (kI, 8, .inl q_told)), (ra 3, .inl (kI, 24, .inl (upd q_kind (12 + (q_told 4)).toNatClampNeg r16))), (ra 4, .inl (kI, 24, .inl (upd q_salt (12 + (q_told 4)).toNatClampNeg r140))), (ra 5, .inl (kI, 24, .inl (upd q_pace (12 + (q_told 4)).toNatClampNeg r150))), (ra 6, .inl (kI, 24, .inl (upd q_mute (12 + (q_told 4)).toNatClampNeg 1))), (ra 7, .inl (kI, 24, .inl (upd q_late (12 + (q_told 4)).toNatClampNeg 0))), (ra 1, .inl (kS, 4, .inr (.inr (.inr (.inr q_kinds))))), (m0, .inr (11, oX11 ra y214)), (ra 13, .inl (kI, 700, .inl q_tape))] := hDa
                clear hPa hDa
                refine W.widen (k := 0) (n := 0) (Nat.le_of_ble_eq_true rfl) (Nat.le_of_ble_eq_true rfl) ?_
                have hrr222 : RRd tT nN y214 (manT tT nN (rtr4 tT nN sS)) := (mq_s hrr159 c205 (Or.inl c163)) ▸ hq219
                refine lv_aload_n hx hb dX11_readRouter_168 rfl (lv_at hl 2 rfl) ?_
                refine va_get (D := (dC, dI)) (ci := 11) (v := .ref (ra 2)) (C := RX11) (T := TX11) (N := 61) hx hb hts hin11 hown hK hP 7 rfl rfl 3 (Nat.le_of_ble_eq_true rfl) hw_0 (fun _ h9 => h9) rfl dX11_readRouter_169 ?_
                refine lv_iconst (v := 4) hx hb dX11_readRouter_172 ic_4 ?_
                refine lv_dup2_11 hx hb dX11_readRouter_173 rfl rfl ?_
                refine va_iald hx hb hK hP 0 1 rfl rfl (vp_in_nI (n := 4) (by decide) (by decide)) dX11_readRouter_174 ?_
                refine W.eq (g2 := F0 m 175 ls [.int (q_told 4), .int 4, .ref (ra 2)]) rfl ?_
                refine lv_iconst (v := 1) hx hb dX11_readRouter_175 ic_1 ?_
                refine lv_iadd hx hb dX11_readRouter_176 ?_
                have b223 : iv 1 12 ((q_told 4) + 1) := iv_add b2 ivk_1 (by decide) (by decide) (by decide) (by decide)
                refine va_iast hx hb hK hP hD hS 0 1 rfl rfl (vp_in_nI (n := 4) (by decide) (by decide)) dX11_readRouter_177 (fun H locs hPa hDa hS => ?_)
                clear hP hD
                have hP : va_P (dC, dI) vwCl [(ra 2, .inl (kI, 8, .inl (upd q_told 4 ((q_told 4) + 1)))), (ra 3, .inl (kI, 24, .inl (upd q_kind (12 + (q_told 4)).toNatClampNeg r16))), (ra 4, .inl (kI, 24, .inl (upd q_salt (12 + (q_told 4)).toNatClampNeg r140))), (ra 5, .inl (kI, 24, .inl (upd q_pace (12 + (q_told 4)).toNatClampNeg r150))), (ra 6, .inl (kI, 24, .inl (upd q_mute (12 + (q_told 4)).toNatClampNeg 1))), (ra 7, .inl (kI, 24, .inl (upd q_late (12 + (q_told 4)).toNatClampNeg 0))), (ra 1, .inl (kS, 4, .inr (.inr (.inr (.inr q_kinds))))), (m0, .inr (11, oX11 ra y214)), (ra 13, .inl (kI, 700, .inl q_tape))] H := hPa
                have hD : va_D A [(ra 2, .inl (kI, 8, .inl (upd q_told 4 ((q_told 4) + 1)))), (ra 3, .inl (kI, 24, .inl (upd q_kind (12 + (q_told 4)).toNatClampNeg r16))), (ra 4, .inl (kI, 24, .inl (upd q_salt (12 + (q_told 4)).toNatClampNeg r140))), (ra 5, .inl (kI, 24, .inl (upd q_pace (12 + (q_told 4)).toNatClampNeg r150))), (ra 6, .inl (kI, 24, .inl (upd q_mute (12 + (q_told 4)).toNatClampNeg 1))), (ra 7, .inl (kI, 24, .inl (upd q_late (12 + (q_told 4)).toNatClampNeg 0))), (ra 1, .inl (kS, 4, .inr (.inr (.inr (.inr q_kinds))))), (m0, .inr (11, oX11 ra y214)), (ra 13, .inl (kI, 700, .inl q_tape))] := hDa
                clear hPa hDa
                have hPD9 := cl_s (wc := [(m0, .inr (11, oX11 ra y214)), (ra 2, .inl (kI, 8, .inl (upd q_told 4 ((q_told 4) + 1)))), (ra 3, .inl (kI, 24, .inl (upd q_kind (12 + (q_told 4)).toNatClampNeg r16))), (ra 4, .inl (kI, 24, .inl (upd q_salt (12 + (q_told 4)).toNatClampNeg r140))), (ra 5, .inl (kI, 24, .inl (upd q_pace (12 + (q_told 4)).toNatClampNeg r150))), (ra 6, .inl (kI, 24, .inl (upd q_mute (12 + (q_told 4)).toNatClampNeg 1))), (ra 7, .inl (kI, 24, .inl (upd q_late (12 + (q_told 4)).toNatClampNeg 0))), (ra 13, .inl (kI, 700, .inl q_tape)), (ra 1, .inl (kS, 4, .inr (.inr (.inr (.inr q_kinds)))))]) hP hD [7, 0, 1, 2, 3, 4, 5, 8, 6] rfl (by decide +kernel)
                have hP9 := hPD9.1
                have hD9 := hPD9.2
                exact W.vret hx hb hr (fun t ht hW => ⟨⟨(), rfl, trivial, y214, upd q_told 4 ((q_told 4) + 1), upd q_kind (12 + (q_told 4)).toNatClampNeg r16, upd q_salt (12 + (q_told 4)).toNatClampNeg r140, upd q_pace (12 + (q_told 4)).toNatClampNeg r150, upd q_mute (12 + (q_told 4)).toNatClampNeg 1, upd q_late (12 + (q_told 4)).toNatClampNeg 0, hq215, (fI_u hq_told (k := 4) ((iv_w b223 (by decide) (by decide)))), (fI_u hq_salt (k := (12 + (q_told 4)).toNatClampNeg) (w141.1)), (show (x0 2).toInt ≤ (y214 2).toInt from by omega), (show y214 3 = x0 3 from hq217.trans (hq155.trans (hq145.trans (hq134.trans (hq10))))), (show ∀ j : Nat, (j : Int) < (q_told 1).toInt → (q_from j).toInt < (q_to j).toInt from hLT), (show ∀ j : Nat, (j : Int) < (q_told 5).toInt → (q_from (20 + j)).toInt < (q_to (20 + j)).toInt from hLD), (show RRd tT nN y214 (rtrS tT nN sS (q_told 4)) from it_f (Q := RRd tT nN y214) c1 (hrr222)), fun _ => ⟨rfl, congrArg (upd q_kind ((12 + (q_told 4)).toNatClampNeg)) ((kq_y hwk c18).2 (ok_next (ok_num (ok_next (ok_num (ok_next (rr_ok hrr159 c205))))))), congrArg (upd q_salt ((12 + (q_told 4)).toNatClampNeg)) (hv2 (ok_next (ok_num (ok_next (rr_ok hrr159 c205))))), congrArg (upd q_pace ((12 + (q_told 4)).toNatClampNeg)) (hv3 (ok_next (rr_ok hrr159 c205))), congrArg (upd q_mute ((12 + (q_told 4)).toNatClampNeg)) (wS_1 c163), congrArg (upd q_late ((12 + (q_told 4)).toNatClampNeg)) c203.symm⟩, low_t (by decide), (show y214 1 = x0 1 from hq220.trans (hq157.trans (hq147.trans (hq137.trans (hq13))))), (show y214 10 = x0 10 from hq221.trans (hq158.trans (hq148.trans (hq138.trans (hq14))))), by rw [ht]; exact hP9, hD9⟩, hS.F ht⟩) hS.2.2 dX11_readRouter_178
            · have b224 : iv 1 1 (wS tT 9 (rtr4 tT nN sS)) := iv_neLo c203 b202 ivk_0 (by decide) (by decide)
              refine lv_iconst (v := 1) hx hb dX11_readRouter_135 ic_1 ?_
              refine lv_goto (tgt := 140) hx hb dX11_readRouter_136 rfl ?_
              refine va_iast hx hb hK hP hD hS 5 1 rfl rfl (iv_in b15 (by decide) (by decide)) dX11_readRouter_140 (fun H locs hPa hDa hS => ?_)
              clear hP hD
              have hP : va_P (dC, dI) vwCl [(ra 2, .inl (kI, 8, .inl q_told)), (ra 3, .inl (kI, 24, .inl (upd q_kind (12 + (q_told 4)).toNatClampNeg r16))), (ra 4, .inl (kI, 24, .inl (upd q_salt (12 + (q_told 4)).toNatClampNeg r140))), (ra 5, .inl (kI, 24, .inl (upd q_pace (12 + (q_told 4)).toNatClampNeg r150))), (ra 6, .inl (kI, 24, .inl (upd q_mute (12 + (q_told 4)).toNatClampNeg 1))), (ra 7, .inl (kI, 24, .inl (upd q_late (12 + (q_told 4)).toNatClampNeg 1))), (ra 1, .inl (kS, 4, .inr (.inr (.inr (.inr q_kinds))))), (m0, .inr (11, oX11 ra y152)), (ra 13, .inl (kI, 700, .inl q_tape))] H := hPa
              have hD : va_D A [(ra 2, .inl (kI, 8, .inl q_told)), (ra 3, .inl (kI, 24, .inl (upd q_kind (12 + (q_told 4)).toNatClampNeg r16))), (ra 4, .inl (kI, 24, .inl (upd q_salt (12 + (q_told 4)).toNatClampNeg r140))), (ra 5, .inl (kI, 24, .inl (upd q_pace (12 + (q_told 4)).toNatClampNeg r150))), (ra 6, .inl (kI, 24, .inl (upd q_mute (12 + (q_told 4)).toNatClampNeg 1))), (ra 7, .inl (kI, 24, .inl (upd q_late (12 + (q_told 4)).toNatClampNeg 1))), (ra 1, .inl (kS, 4, .inr (.inr (.inr (.inr q_kinds))))), (m0, .inr (11, oX11 ra y152)), (ra 13, .inl (kI, 700, .inl q_tape))] := hDa
              clear hPa hDa
              refine lv_aload_n hx hb dX11_readRouter_141 rfl (lv_at hl 2 rfl) ?_
              refine va_get (D := (dC, dI)) (ci := 11) (v := .int (y152 8)) (C := RX11) (T := TX11) (N := 61) hx hb hts hin11 hown hK hP 7 rfl rfl 22 (Nat.le_of_ble_eq_true rfl) hw_1 (fun _ h9 => h9) rfl dX11_readRouter_142 ?_
              refine lv_if_ne (tgt := 168) hx hb dX11_readRouter_145 rfl (fun c225 => ?_) (fun c225 => ?_)
              · have b226 : iv 1 5 (y152 8) := iv_neLo c225 (hq153 8 : iv 0 5 (y152 8)) ivk_0 (by decide) (by decide)
                have hrr227 : RRd tT nN y152 (manT tT nN (rtr4 tT nN sS)) := (mq_b hrr159 c225) ▸ hrr159
                refine lv_aload_n hx hb dX11_readRouter_168 rfl (lv_at hl 2 rfl) ?_
                refine va_get (D := (dC, dI)) (ci := 11) (v := .ref (ra 2)) (C := RX11) (T := TX11) (N := 61) hx hb hts hin11 hown hK hP 7 rfl rfl 3 (Nat.le_of_ble_eq_true rfl) hw_0 (fun _ h9 => h9) rfl dX11_readRouter_169 ?_
                refine lv_iconst (v := 4) hx hb dX11_readRouter_172 ic_4 ?_
                refine lv_dup2_11 hx hb dX11_readRouter_173 rfl rfl ?_
                refine va_iald hx hb hK hP 0 1 rfl rfl (vp_in_nI (n := 4) (by decide) (by decide)) dX11_readRouter_174 ?_
                refine W.eq (g2 := F0 m 175 ls [.int (q_told 4), .int 4, .ref (ra 2)]) rfl ?_
                refine lv_iconst (v := 1) hx hb dX11_readRouter_175 ic_1 ?_
                refine lv_iadd hx hb dX11_readRouter_176 ?_
                have b228 : iv 1 12 ((q_told 4) + 1) := iv_add b2 ivk_1 (by decide) (by decide) (by decide) (by decide)
                refine va_iast hx hb hK hP hD hS 0 1 rfl rfl (vp_in_nI (n := 4) (by decide) (by decide)) dX11_readRouter_177 (fun H locs hPa hDa hS => ?_)
                clear hP hD
                have hP : va_P (dC, dI) vwCl [(ra 2, .inl (kI, 8, .inl (upd q_told 4 ((q_told 4) + 1)))), (ra 3, .inl (kI, 24, .inl (upd q_kind (12 + (q_told 4)).toNatClampNeg r16))), (ra 4, .inl (kI, 24, .inl (upd q_salt (12 + (q_told 4)).toNatClampNeg r140))), (ra 5, .inl (kI, 24, .inl (upd q_pace (12 + (q_told 4)).toNatClampNeg r150))), (ra 6, .inl (kI, 24, .inl (upd q_mute (12 + (q_told 4)).toNatClampNeg 1))), (ra 7, .inl (kI, 24, .inl (upd q_late (12 + (q_told 4)).toNatClampNeg 1))), (ra 1, .inl (kS, 4, .inr (.inr (.inr (.inr q_kinds))))), (m0, .inr (11, oX11 ra y152)), (ra 13, .inl (kI, 700, .inl q_tape))] H := hPa
                have hD : va_D A [(ra 2, .inl (kI, 8, .inl (upd q_told 4 ((q_told 4) + 1)))), (ra 3, .inl (kI, 24, .inl (upd q_kind (12 + (q_told 4)).toNatClampNeg r16))), (ra 4, .inl (kI, 24, .inl (upd q_salt (12 + (q_told 4)).toNatClampNeg r140))), (ra 5, .inl (kI, 24, .inl (upd q_pace (12 + (q_told 4)).toNatClampNeg r150))), (ra 6, .inl (kI, 24, .inl (upd q_mute (12 + (q_told 4)).toNatClampNeg 1))), (ra 7, .inl (kI, 24, .inl (upd q_late (12 + (q_told 4)).toNatClampNeg 1))), (ra 1, .inl (kS, 4, .inr (.inr (.inr (.inr q_kinds))))), (m0, .inr (11, oX11 ra y152)), (ra 13, .inl (kI, 700, .inl q_tape))] := hDa
                clear hPa hDa
                have hPD9 := cl_s (wc := [(m0, .inr (11, oX11 ra y152)), (ra 2, .inl (kI, 8, .inl (upd q_told 4 ((q_told 4) + 1)))), (ra 3, .inl (kI, 24, .inl (upd q_kind (12 + (q_told 4)).toNatClampNeg r16))), (ra 4, .inl (kI, 24, .inl (upd q_salt (12 + (q_told 4)).toNatClampNeg r140))), (ra 5, .inl (kI, 24, .inl (upd q_pace (12 + (q_told 4)).toNatClampNeg r150))), (ra 6, .inl (kI, 24, .inl (upd q_mute (12 + (q_told 4)).toNatClampNeg 1))), (ra 7, .inl (kI, 24, .inl (upd q_late (12 + (q_told 4)).toNatClampNeg 1))), (ra 13, .inl (kI, 700, .inl q_tape)), (ra 1, .inl (kS, 4, .inr (.inr (.inr (.inr q_kinds)))))]) hP hD [7, 0, 1, 2, 3, 4, 5, 8, 6] rfl (by decide +kernel)
                have hP9 := hPD9.1
                have hD9 := hPD9.2
                exact W.vret hx hb hr (fun t ht hW => ⟨⟨(), rfl, trivial, y152, upd q_told 4 ((q_told 4) + 1), upd q_kind (12 + (q_told 4)).toNatClampNeg r16, upd q_salt (12 + (q_told 4)).toNatClampNeg r140, upd q_pace (12 + (q_told 4)).toNatClampNeg r150, upd q_mute (12 + (q_told 4)).toNatClampNeg 1, upd q_late (12 + (q_told 4)).toNatClampNeg 1, hq153, (fI_u hq_told (k := 4) ((iv_w b228 (by decide) (by decide)))), (fI_u hq_salt (k := (12 + (q_told 4)).toNatClampNeg) (w141.1)), (show (x0 2).toInt ≤ (y152 2).toInt from by omega), (show y152 3 = x0 3 from hq155.trans (hq145.trans (hq134.trans (hq10)))), (show ∀ j : Nat, (j : Int) < (q_told 1).toInt → (q_from j).toInt < (q_to j).toInt from hLT), (show ∀ j : Nat, (j : Int) < (q_told 5).toInt → (q_from (20 + j)).toInt < (q_to (20 + j)).toInt from hLD), (show RRd tT nN y152 (rtrS tT nN sS (q_told 4)) from it_f (Q := RRd tT nN y152) c1 (hrr227)), fun w => absurd w c225, low_t (by decide), (show y152 1 = x0 1 from hq157.trans (hq147.trans (hq137.trans (hq13)))), (show y152 10 = x0 10 from hq158.trans (hq148.trans (hq138.trans (hq14)))), by rw [ht]; exact hP9, hD9⟩, hS.F ht⟩) hS.2.2 dX11_readRouter_178
              · have b229 : iv 0 0 (y152 8) := iv_eqL c225 ivk_0
                refine lv_aload_n hx hb dX11_readRouter_148 rfl (lv_at hl 2 rfl) ?_
                refine va_get (D := (dC, dI)) (ci := 11) (v := .ref (ra 6)) (C := RX11) (T := TX11) (N := 61) hx hb hts hin11 hown hK hP 7 rfl rfl 7 (Nat.le_of_ble_eq_true rfl) hw_6 (fun _ h9 => h9) rfl dX11_readRouter_149 ?_
                refine lv_iload_n hx hb dX11_readRouter_152 rfl (lv_at hl 1 rfl) ?_
                refine va_iald hx hb hK hP 4 1 rfl rfl (iv_in b15 (by decide) (by decide)) dX11_readRouter_153 ?_
                refine W.eq (g2 := F0 m 154 ls [.int 1]) (by rw [upd_eq]) ?_
                refine lv_aload_n hx hb dX11_readRouter_154 rfl (lv_at hl 2 rfl) ?_
                refine va_get (D := (dC, dI)) (ci := 11) (v := .ref (ra 7)) (C := RX11) (T := TX11) (N := 61) hx hb hts hin11 hown hK hP 7 rfl rfl 8 (Nat.le_of_ble_eq_true rfl) hw_7 (fun _ h9 => h9) rfl dX11_readRouter_155 ?_
                refine lv_iload_n hx hb dX11_readRouter_158 rfl (lv_at hl 1 rfl) ?_
                refine va_iald hx hb hK hP 5 1 rfl rfl (iv_in b15 (by decide) (by decide)) dX11_readRouter_159 ?_
                refine W.eq (g2 := F0 m 160 ls [.int 1, .int 1]) (by rw [upd_eq]) ?_
                refine lv_iadd hx hb dX11_readRouter_160 ?_
                refine lv_topi (fun z230 e231 => ?_)
                obtain rfl : z230 = (2 : Int32) := e231.trans (by decide)
                refine lv_if_le (tgt := 168) hx hb dX11_readRouter_161 rfl (fun c9 => absurd c9 (by decide)) (fun _ => ?_)
                refine lv_aload_n hx hb dX11_readRouter_164 rfl (lv_at hl 2 rfl) ?_
                obtain ⟨hPc, hDc, hFc, hJn⟩ := cl_a (wc := [(m0, .inr (11, oX11 ra y152)), (ra 13, .inl (kI, 700, .inl q_tape))]) (wr := [(ra 2, .inl (kI, 8, .inl q_told)), (ra 3, .inl (kI, 24, .inl (upd q_kind (12 + (q_told 4)).toNatClampNeg r16))), (ra 4, .inl (kI, 24, .inl (upd q_salt (12 + (q_told 4)).toNatClampNeg r140))), (ra 5, .inl (kI, 24, .inl (upd q_pace (12 + (q_told 4)).toNatClampNeg r150))), (ra 6, .inl (kI, 24, .inl (upd q_mute (12 + (q_told 4)).toNatClampNeg 1))), (ra 7, .inl (kI, 24, .inl (upd q_late (12 + (q_told 4)).toNatClampNeg 1))), (ra 1, .inl (kS, 4, .inr (.inr (.inr (.inr q_kinds)))))]) hP hD hS hA [7, 8] [0, 1, 2, 3, 4, 5, 6] rfl rfl (by decide +kernel)
                refine va_callv (va_runV (As := []) (rest := []) ⟨hx, hb, hml, hown, hts⟩ (s11_stepOn l dC dI kB kI kJ kZ kC kS H.size m0 ra y152 q_tape tT nN (nextT tT nN (rtr4 tT nN sS)) (hq153) (hq_tape) (hrr159.2) (stp_of hrr159) (hTQ)) (cwV 0 hts gX11_readRouter_X11_stepOn rfl rfl rfl (by decide +kernel) ⟨Nat.le_of_ble_eq_true rfl, Nat.le_of_ble_eq_true rfl⟩) ⟨fun a U g mk q => by obtain ⟨q0, q1, qP, qE, qD⟩ := q; exact ⟨q0, q1, qP, kE_call qE, qD⟩, va_recv hK hP (ci := 11) (q0 := 7) rfl rfl, fun U hU hW => ⟨rfl, by rw [hU], by rw [hU]; exact hPc, kE_warm hW hE, hDc.weaken (fun _ _ _ _ => trivial)⟩⟩ rfl rfl hl.1 rfl (lv_room (Nat.le_of_ble_eq_true rfl)) dX11_readRouter_165 ⟨Nat.le_of_ble_eq_true rfl, Nat.le_of_ble_eq_true rfl⟩) hS (fun q _ h => hFc q h) hFc (fun u t H locs ht hvm w233 hB hz1 hk1 hS => ?_)
                obtain ⟨y234, hq235, hq236, hq237, hq238, hq239, hq240, hq241, hP1, hD1⟩ := hB
                try dsimp only at w233
                obtain ⟨hPa, hDa⟩ := hJn (w1 := [(m0, .inr (11, oX11 ra y234)), (ra 13, .inl (kI, 700, .inl q_tape))]) hk1 ht hP1 hD1
                clear hP hD hPc hDc hFc hJn hP1 hD1 hk1
                have hP : va_P (dC, dI) vwCl [(ra 2, .inl (kI, 8, .inl q_told)), (ra 3, .inl (kI, 24, .inl (upd q_kind (12 + (q_told 4)).toNatClampNeg r16))), (ra 4, .inl (kI, 24, .inl (upd q_salt (12 + (q_told 4)).toNatClampNeg r140))), (ra 5, .inl (kI, 24, .inl (upd q_pace (12 + (q_told 4)).toNatClampNeg r150))), (ra 6, .inl (kI, 24, .inl (upd q_mute (12 + (q_told 4)).toNatClampNeg 1))), (ra 7, .inl (kI, 24, .inl (upd q_late (12 + (q_told 4)).toNatClampNeg 1))), (ra 1, .inl (kS, 4, .inr (.inr (.inr (.inr q_kinds))))), (m0, .inr (11, oX11 ra y234)), (ra 13, .inl (kI, 700, .inl q_tape))] H := hPa
                have hD : va_D A [(ra 2, .inl (kI, 8, .inl q_told)), (ra 3, .inl (kI, 24, .inl (upd q_kind (12 + (q_told 4)).toNatClampNeg r16))), (ra 4, .inl (kI, 24, .inl (upd q_salt (12 + (q_told 4)).toNatClampNeg r140))), (ra 5, .inl (kI, 24, .inl (upd q_pace (12 + (q_told 4)).toNatClampNeg r150))), (ra 6, .inl (kI, 24, .inl (upd q_mute (12 + (q_told 4)).toNatClampNeg 1))), (ra 7, .inl (kI, 24, .inl (upd q_late (12 + (q_told 4)).toNatClampNeg 1))), (ra 1, .inl (kS, 4, .inr (.inr (.inr (.inr q_kinds))))), (m0, .inr (11, oX11 ra y234)), (ra 13, .inl (kI, 700, .inl q_tape))] := hDa
                clear hPa hDa
                refine W.widen (k := 0) (n := 0) (Nat.le_of_ble_eq_true rfl) (Nat.le_of_ble_eq_true rfl) ?_
                have hrr242 : RRd tT nN y234 (manT tT nN (rtr4 tT nN sS)) := (mq_s hrr159 c225 (Or.inl c163)) ▸ hq239
                refine lv_aload_n hx hb dX11_readRouter_168 rfl (lv_at hl 2 rfl) ?_
                refine va_get (D := (dC, dI)) (ci := 11) (v := .ref (ra 2)) (C := RX11) (T := TX11) (N := 61) hx hb hts hin11 hown hK hP 7 rfl rfl 3 (Nat.le_of_ble_eq_true rfl) hw_0 (fun _ h9 => h9) rfl dX11_readRouter_169 ?_
                refine lv_iconst (v := 4) hx hb dX11_readRouter_172 ic_4 ?_
                refine lv_dup2_11 hx hb dX11_readRouter_173 rfl rfl ?_
                refine va_iald hx hb hK hP 0 1 rfl rfl (vp_in_nI (n := 4) (by decide) (by decide)) dX11_readRouter_174 ?_
                refine W.eq (g2 := F0 m 175 ls [.int (q_told 4), .int 4, .ref (ra 2)]) rfl ?_
                refine lv_iconst (v := 1) hx hb dX11_readRouter_175 ic_1 ?_
                refine lv_iadd hx hb dX11_readRouter_176 ?_
                have b243 : iv 1 12 ((q_told 4) + 1) := iv_add b2 ivk_1 (by decide) (by decide) (by decide) (by decide)
                refine va_iast hx hb hK hP hD hS 0 1 rfl rfl (vp_in_nI (n := 4) (by decide) (by decide)) dX11_readRouter_177 (fun H locs hPa hDa hS => ?_)
                clear hP hD
                have hP : va_P (dC, dI) vwCl [(ra 2, .inl (kI, 8, .inl (upd q_told 4 ((q_told 4) + 1)))), (ra 3, .inl (kI, 24, .inl (upd q_kind (12 + (q_told 4)).toNatClampNeg r16))), (ra 4, .inl (kI, 24, .inl (upd q_salt (12 + (q_told 4)).toNatClampNeg r140))), (ra 5, .inl (kI, 24, .inl (upd q_pace (12 + (q_told 4)).toNatClampNeg r150))), (ra 6, .inl (kI, 24, .inl (upd q_mute (12 + (q_told 4)).toNatClampNeg 1))), (ra 7, .inl (kI, 24, .inl (upd q_late (12 + (q_told 4)).toNatClampNeg 1))), (ra 1, .inl (kS, 4, .inr (.inr (.inr (.inr q_kinds))))), (m0, .inr (11, oX11 ra y234)), (ra 13, .inl (kI, 700, .inl q_tape))] H := hPa
                have hD : va_D A [(ra 2, .inl (kI, 8, .inl (upd q_told 4 ((q_told 4) + 1)))), (ra 3, .inl (kI, 24, .inl (upd q_kind (12 + (q_told 4)).toNatClampNeg r16))), (ra 4, .inl (kI, 24, .inl (upd q_salt (12 + (q_told 4)).toNatClampNeg r140))), (ra 5, .inl (kI, 24, .inl (upd q_pace (12 + (q_told 4)).toNatClampNeg r150))), (ra 6, .inl (kI, 24, .inl (upd q_mute (12 + (q_told 4)).toNatClampNeg 1))), (ra 7, .inl (kI, 24, .inl (upd q_late (12 + (q_told 4)).toNatClampNeg 1))), (ra 1, .inl (kS, 4, .inr (.inr (.inr (.inr q_kinds))))), (m0, .inr (11, oX11 ra y234)), (ra 13, .inl (kI, 700, .inl q_tape))] := hDa
                clear hPa hDa
                have hPD9 := cl_s (wc := [(m0, .inr (11, oX11 ra y234)), (ra 2, .inl (kI, 8, .inl (upd q_told 4 ((q_told 4) + 1)))), (ra 3, .inl (kI, 24, .inl (upd q_kind (12 + (q_told 4)).toNatClampNeg r16))), (ra 4, .inl (kI, 24, .inl (upd q_salt (12 + (q_told 4)).toNatClampNeg r140))), (ra 5, .inl (kI, 24, .inl (upd q_pace (12 + (q_told 4)).toNatClampNeg r150))), (ra 6, .inl (kI, 24, .inl (upd q_mute (12 + (q_told 4)).toNatClampNeg 1))), (ra 7, .inl (kI, 24, .inl (upd q_late (12 + (q_told 4)).toNatClampNeg 1))), (ra 13, .inl (kI, 700, .inl q_tape)), (ra 1, .inl (kS, 4, .inr (.inr (.inr (.inr q_kinds)))))]) hP hD [7, 0, 1, 2, 3, 4, 5, 8, 6] rfl (by decide +kernel)
                have hP9 := hPD9.1
                have hD9 := hPD9.2
                exact W.vret hx hb hr (fun t ht hW => ⟨⟨(), rfl, trivial, y234, upd q_told 4 ((q_told 4) + 1), upd q_kind (12 + (q_told 4)).toNatClampNeg r16, upd q_salt (12 + (q_told 4)).toNatClampNeg r140, upd q_pace (12 + (q_told 4)).toNatClampNeg r150, upd q_mute (12 + (q_told 4)).toNatClampNeg 1, upd q_late (12 + (q_told 4)).toNatClampNeg 1, hq235, (fI_u hq_told (k := 4) ((iv_w b243 (by decide) (by decide)))), (fI_u hq_salt (k := (12 + (q_told 4)).toNatClampNeg) (w141.1)), (show (x0 2).toInt ≤ (y234 2).toInt from by omega), (show y234 3 = x0 3 from hq237.trans (hq155.trans (hq145.trans (hq134.trans (hq10))))), (show ∀ j : Nat, (j : Int) < (q_told 1).toInt → (q_from j).toInt < (q_to j).toInt from hLT), (show ∀ j : Nat, (j : Int) < (q_told 5).toInt → (q_from (20 + j)).toInt < (q_to (20 + j)).toInt from hLD), (show RRd tT nN y234 (rtrS tT nN sS (q_told 4)) from it_f (Q := RRd tT nN y234) c1 (hrr242)), fun _ => ⟨rfl, congrArg (upd q_kind ((12 + (q_told 4)).toNatClampNeg)) ((kq_y hwk c18).2 (ok_next (ok_num (ok_next (ok_num (ok_next (rr_ok hrr159 c225))))))), congrArg (upd q_salt ((12 + (q_told 4)).toNatClampNeg)) (hv2 (ok_next (ok_num (ok_next (rr_ok hrr159 c225))))), congrArg (upd q_pace ((12 + (q_told 4)).toNatClampNeg)) (hv3 (ok_next (rr_ok hrr159 c225))), congrArg (upd q_mute ((12 + (q_told 4)).toNatClampNeg)) (wS_1 c163), congrArg (upd q_late ((12 + (q_told 4)).toNatClampNeg)) (wS_1 c203)⟩, low_t (by decide), (show y234 1 = x0 1 from hq240.trans (hq157.trans (hq147.trans (hq137.trans (hq13))))), (show y234 10 = x0 10 from hq241.trans (hq158.trans (hq148.trans (hq138.trans (hq14))))), by rw [ht]; exact hP9, hD9⟩, hS.F ht⟩) hS.2.2 dX11_readRouter_178
      · have b244 : iv (-1) (-1) r16 := iv_eqL c18 ivk_m1
        refine lv_aload_n hx hb dX11_readRouter_52 rfl (lv_at hl 2 rfl) ?_
        refine lv_iconst (v := 1) hx hb dX11_readRouter_53 ic_1 ?_
        obtain ⟨hPc, hDc, hFc, hJn⟩ := cl_a (wc := [(m0, .inr (11, oX11 ra y7))]) (wr := [(ra 2, .inl (kI, 8, .inl q_told)), (ra 3, .inl (kI, 24, .inl q_kind)), (ra 4, .inl (kI, 24, .inl q_salt)), (ra 5, .inl (kI, 24, .inl q_pace)), (ra 6, .inl (kI, 24, .inl q_mute)), (ra 7, .inl (kI, 24, .inl q_late)), (ra 13, .inl (kI, 700, .inl q_tape)), (ra 1, .inl (kS, 4, .inr (.inr (.inr (.inr q_kinds)))))]) hP hD hS hA [6] [0, 1, 2, 3, 4, 5, 7, 8] rfl rfl (by decide +kernel)
        refine va_callv (va_runV (As := [.int 1]) (rest := []) ⟨hx, hb, hml, hown, hts⟩ (s11_wrong l dC dI kB kI kJ kZ kC kS H.size m0 ra y7 1 tT nN (nextT tT nN sS) (hq8) ((iv_w ivk_1 (by decide) (by decide))) (hq12)) (cwV 1 hts gX11_readRouter_X11_wrong rfl rfl rfl (by decide +kernel) ⟨Nat.le_of_ble_eq_true rfl, Nat.le_of_ble_eq_true rfl⟩) ⟨fun a U g mk q => by obtain ⟨q0, q1, qP, qE, qD⟩ := q; exact ⟨q0, q1, qP, kE_call qE, qD⟩, va_recv hK hP (ci := 11) (q0 := 6) rfl rfl, fun U hU hW => ⟨rfl, by rw [hU], by rw [hU]; exact hPc, kE_warm hW hE, hDc.weaken (fun _ _ _ _ => trivial)⟩⟩ rfl rfl hl.1 rfl (lv_room (Nat.le_of_ble_eq_true rfl)) dX11_readRouter_54 ⟨Nat.le_of_ble_eq_true rfl, Nat.le_of_ble_eq_true rfl⟩) hS (fun q _ h => hFc q h) hFc (fun u t H locs ht hvm w246 hB hz1 hk1 hS => ?_)
        obtain ⟨y247, hq248, hq249, hq250, hq251, hq252, hq253, hq254, hP1, hD1⟩ := hB
        try dsimp only at w246
        obtain ⟨hPa, hDa⟩ := hJn (w1 := [(m0, .inr (11, oX11 ra y247))]) hk1 ht hP1 hD1
        clear hP hD hPc hDc hFc hJn hP1 hD1 hk1
        have hP : va_P (dC, dI) vwCl [(ra 2, .inl (kI, 8, .inl q_told)), (ra 3, .inl (kI, 24, .inl q_kind)), (ra 4, .inl (kI, 24, .inl q_salt)), (ra 5, .inl (kI, 24, .inl q_pace)), (ra 6, .inl (kI, 24, .inl q_mute)), (ra 7, .inl (kI, 24, .inl q_late)), (ra 13, .inl (kI, 700, .inl q_tape)), (ra 1, .inl (kS, 4, .inr (.inr (.inr (.inr q_kinds))))), (m0, .inr (11, oX11 ra y247))] H := hPa
        have hD : va_D A [(ra 2, .inl (kI, 8, .inl q_told)), (ra 3, .inl (kI, 24, .inl q_kind)), (ra 4, .inl (kI, 24, .inl q_salt)), (ra 5, .inl (kI, 24, .inl q_pace)), (ra 6, .inl (kI, 24, .inl q_mute)), (ra 7, .inl (kI, 24, .inl q_late)), (ra 13, .inl (kI, 700, .inl q_tape)), (ra 1, .inl (kS, 4, .inr (.inr (.inr (.inr q_kinds))))), (m0, .inr (11, oX11 ra y247))] := hDa
        clear hPa hDa
        refine W.widen (k := 0) (n := 0) (Nat.le_of_ble_eq_true rfl) (Nat.le_of_ble_eq_true rfl) ?_
        have hrr255 : RRd tT nN y247 (kndT tT (rtr1 tT nN sS)) := (kq_n hwk c18) ▸ hq252
        refine lv_aload_n hx hb dX11_readRouter_57 rfl (lv_at hl 2 rfl) ?_
        refine va_get (D := (dC, dI)) (ci := 11) (v := .int (y247 8)) (C := RX11) (T := TX11) (N := 61) hx hb hts hin11 hown hK hP 8 rfl rfl 22 (Nat.le_of_ble_eq_true rfl) hw_1 (fun _ h9 => h9) rfl dX11_readRouter_58 ?_
        refine lv_if_ne (tgt := 68) hx hb dX11_readRouter_61 rfl (fun _ => ?_) (fun c9 => absurd c9 (iv_ne hq249 ivk_0 (by decide)))
        have hrr256 : RRd tT nN y247 (rtr2 tT nN sS) := rr_stepN hrr255 (iv_ne hq249 ivk_0 (by decide))
        refine lv_aload_n hx hb dX11_readRouter_68 rfl (lv_at hl 2 rfl) ?_
        refine va_get (D := (dC, dI)) (ci := 11) (v := .ref (ra 3)) (C := RX11) (T := TX11) (N := 61) hx hb hts hin11 hown hK hP 8 rfl rfl 4 (Nat.le_of_ble_eq_true rfl) hw_3 (fun _ h9 => h9) rfl dX11_readRouter_69 ?_
        refine lv_iload_n hx hb dX11_readRouter_72 rfl (lv_at hl 1 rfl) ?_
        refine lv_iload_n hx hb dX11_readRouter_73 rfl (lv_at hl 0 rfl) ?_
        refine va_iast hx hb hK hP hD hS 1 1 rfl rfl (iv_in b15 (by decide) (by decide)) dX11_readRouter_74 (fun H locs hPa hDa hS => ?_)
        clear hP hD
        have hP : va_P (dC, dI) vwCl [(ra 2, .inl (kI, 8, .inl q_told)), (ra 3, .inl (kI, 24, .inl (upd q_kind (12 + (q_told 4)).toNatClampNeg r16))), (ra 4, .inl (kI, 24, .inl q_salt)), (ra 5, .inl (kI, 24, .inl q_pace)), (ra 6, .inl (kI, 24, .inl q_mute)), (ra 7, .inl (kI, 24, .inl q_late)), (ra 13, .inl (kI, 700, .inl q_tape)), (ra 1, .inl (kS, 4, .inr (.inr (.inr (.inr q_kinds))))), (m0, .inr (11, oX11 ra y247))] H := hPa
        have hD : va_D A [(ra 2, .inl (kI, 8, .inl q_told)), (ra 3, .inl (kI, 24, .inl (upd q_kind (12 + (q_told 4)).toNatClampNeg r16))), (ra 4, .inl (kI, 24, .inl q_salt)), (ra 5, .inl (kI, 24, .inl q_pace)), (ra 6, .inl (kI, 24, .inl q_mute)), (ra 7, .inl (kI, 24, .inl q_late)), (ra 13, .inl (kI, 700, .inl q_tape)), (ra 1, .inl (kS, 4, .inr (.inr (.inr (.inr q_kinds))))), (m0, .inr (11, oX11 ra y247))] := hDa
        clear hPa hDa
        refine lv_aload_n hx hb dX11_readRouter_75 rfl (lv_at hl 2 rfl) ?_
        refine va_get (D := (dC, dI)) (ci := 11) (v := .ref (ra 4)) (C := RX11) (T := TX11) (N := 61) hx hb hts hin11 hown hK hP 8 rfl rfl 5 (Nat.le_of_ble_eq_true rfl) hw_4 (fun _ h9 => h9) rfl dX11_readRouter_76 ?_
        refine lv_iload_n hx hb dX11_readRouter_79 rfl (lv_at hl 1 rfl) ?_
        refine lv_aload_n hx hb dX11_readRouter_80 rfl (lv_at hl 2 rfl) ?_
        refine lv_iconst (v := 0) hx hb dX11_readRouter_81 ic_0 ?_
        refine lv_bipush (v := 15) hx hb dX11_readRouter_82 bp_15 ?_
        obtain ⟨hPc, hDc, hFc, hJn⟩ := cl_a (wc := [(m0, .inr (11, oX11 ra y247)), (ra 13, .inl (kI, 700, .inl q_tape))]) (wr := [(ra 2, .inl (kI, 8, .inl q_told)), (ra 3, .inl (kI, 24, .inl (upd q_kind (12 + (q_told 4)).toNatClampNeg r16))), (ra 4, .inl (kI, 24, .inl q_salt)), (ra 5, .inl (kI, 24, .inl q_pace)), (ra 6, .inl (kI, 24, .inl q_mute)), (ra 7, .inl (kI, 24, .inl q_late)), (ra 1, .inl (kS, 4, .inr (.inr (.inr (.inr q_kinds)))))]) hP hD hS hA [8, 6] [0, 1, 2, 3, 4, 5, 7] rfl rfl (by decide +kernel)
        refine va_calli (va_runV (As := [.int 0, .int 15]) (rest := [.int (12 + (q_told 4)), .ref (ra 4)]) ⟨hx, hb, hml, hown, hts⟩ (s11_readNumber_0_15 l dC dI kB kI kJ kZ kC kS H.size m0 ra y247 q_tape tT nN (rtr2 tT nN sS) (hq248) (hq_tape) (hrr256) (hTQ)) (cwV 2 hts gX11_readRouter_X11_readNumber rfl rfl rfl (by decide +kernel) ⟨Nat.le_of_ble_eq_true rfl, Nat.le_of_ble_eq_true rfl⟩) ⟨fun a U g mk q => by obtain ⟨q0, q1, qP, qE, qD⟩ := q; exact ⟨q0, q1, qP, kE_call qE, qD⟩, va_recv hK hP (ci := 11) (q0 := 8) rfl rfl, fun U hU hW => ⟨rfl, by rw [hU], by rw [hU]; exact hPc, kE_warm hW hE, hDc.weaken (fun _ _ _ _ => trivial)⟩⟩ rfl rfl hl.1 rfl (lv_room (Nat.le_of_ble_eq_true rfl)) dX11_readRouter_84 ⟨Nat.le_of_ble_eq_true rfl, Nat.le_of_ble_eq_true rfl⟩) hS (fun q _ h => hFc q h) hFc (fun r257 u t H locs ht hvm w258 hB hz1 hk1 hS => ?_)
        obtain ⟨y259, hq260, hq261, hq262, hq263, hq264, hq265, hP1, hD1⟩ := hB
        try dsimp only at w258
        obtain ⟨hPa, hDa⟩ := hJn (w1 := [(m0, .inr (11, oX11 ra y259)), (ra 13, .inl (kI, 700, .inl q_tape))]) hk1 ht hP1 hD1
        clear hP hD hPc hDc hFc hJn hP1 hD1 hk1
        have hP : va_P (dC, dI) vwCl [(ra 2, .inl (kI, 8, .inl q_told)), (ra 3, .inl (kI, 24, .inl (upd q_kind (12 + (q_told 4)).toNatClampNeg r16))), (ra 4, .inl (kI, 24, .inl q_salt)), (ra 5, .inl (kI, 24, .inl q_pace)), (ra 6, .inl (kI, 24, .inl q_mute)), (ra 7, .inl (kI, 24, .inl q_late)), (ra 1, .inl (kS, 4, .inr (.inr (.inr (.inr q_kinds))))), (m0, .inr (11, oX11 ra y259)), (ra 13, .inl (kI, 700, .inl q_tape))] H := hPa
        have hD : va_D A [(ra 2, .inl (kI, 8, .inl q_told)), (ra 3, .inl (kI, 24, .inl (upd q_kind (12 + (q_told 4)).toNatClampNeg r16))), (ra 4, .inl (kI, 24, .inl q_salt)), (ra 5, .inl (kI, 24, .inl q_pace)), (ra 6, .inl (kI, 24, .inl q_mute)), (ra 7, .inl (kI, 24, .inl q_late)), (ra 1, .inl (kS, 4, .inr (.inr (.inr (.inr q_kinds))))), (m0, .inr (11, oX11 ra y259)), (ra 13, .inl (kI, 700, .inl q_tape))] := hDa
        clear hPa hDa
        refine W.widen (k := 0) (n := 0) (Nat.le_of_ble_eq_true rfl) (Nat.le_of_ble_eq_true rfl) ?_
        have hv2 := w258.2
        refine va_iast hx hb hK hP hD hS 2 1 rfl rfl (iv_in b15 (by decide) (by decide)) dX11_readRouter_87 (fun H locs hPa hDa hS => ?_)
        clear hP hD
        have hP : va_P (dC, dI) vwCl [(ra 2, .inl (kI, 8, .inl q_told)), (ra 3, .inl (kI, 24, .inl (upd q_kind (12 + (q_told 4)).toNatClampNeg r16))), (ra 4, .inl (kI, 24, .inl (upd q_salt (12 + (q_told 4)).toNatClampNeg r257))), (ra 5, .inl (kI, 24, .inl q_pace)), (ra 6, .inl (kI, 24, .inl q_mute)), (ra 7, .inl (kI, 24, .inl q_late)), (ra 1, .inl (kS, 4, .inr (.inr (.inr (.inr q_kinds))))), (m0, .inr (11, oX11 ra y259)), (ra 13, .inl (kI, 700, .inl q_tape))] H := hPa
        have hD : va_D A [(ra 2, .inl (kI, 8, .inl q_told)), (ra 3, .inl (kI, 24, .inl (upd q_kind (12 + (q_told 4)).toNatClampNeg r16))), (ra 4, .inl (kI, 24, .inl (upd q_salt (12 + (q_told 4)).toNatClampNeg r257))), (ra 5, .inl (kI, 24, .inl q_pace)), (ra 6, .inl (kI, 24, .inl q_mute)), (ra 7, .inl (kI, 24, .inl q_late)), (ra 1, .inl (kS, 4, .inr (.inr (.inr (.inr q_kinds))))), (m0, .inr (11, oX11 ra y259)), (ra 13, .inl (kI, 700, .inl q_tape))] := hDa
        clear hPa hDa
        have hrr266 : RRd tT nN y259 (rtr3 tT nN sS) := hq263
        refine lv_aload_n hx hb dX11_readRouter_88 rfl (lv_at hl 2 rfl) ?_
        refine va_get (D := (dC, dI)) (ci := 11) (v := .ref (ra 5)) (C := RX11) (T := TX11) (N := 61) hx hb hts hin11 hown hK hP 7 rfl rfl 6 (Nat.le_of_ble_eq_true rfl) hw_5 (fun _ h9 => h9) rfl dX11_readRouter_89 ?_
        refine lv_iload_n hx hb dX11_readRouter_92 rfl (lv_at hl 1 rfl) ?_
        refine lv_aload_n hx hb dX11_readRouter_93 rfl (lv_at hl 2 rfl) ?_
        refine lv_iconst (v := 1) hx hb dX11_readRouter_94 ic_1 ?_
        refine lv_bipush (v := 60) hx hb dX11_readRouter_95 bp_60 ?_
        obtain ⟨hPc, hDc, hFc, hJn⟩ := cl_a (wc := [(m0, .inr (11, oX11 ra y259)), (ra 13, .inl (kI, 700, .inl q_tape))]) (wr := [(ra 2, .inl (kI, 8, .inl q_told)), (ra 3, .inl (kI, 24, .inl (upd q_kind (12 + (q_told 4)).toNatClampNeg r16))), (ra 4, .inl (kI, 24, .inl (upd q_salt (12 + (q_told 4)).toNatClampNeg r257))), (ra 5, .inl (kI, 24, .inl q_pace)), (ra 6, .inl (kI, 24, .inl q_mute)), (ra 7, .inl (kI, 24, .inl q_late)), (ra 1, .inl (kS, 4, .inr (.inr (.inr (.inr q_kinds)))))]) hP hD hS hA [7, 8] [0, 1, 2, 3, 4, 5, 6] rfl rfl (by decide +kernel)
        refine va_calli (va_runV (As := [.int 1, .int 60]) (rest := [.int (12 + (q_told 4)), .ref (ra 5)]) ⟨hx, hb, hml, hown, hts⟩ (s11_readNumber_1_60 l dC dI kB kI kJ kZ kC kS H.size m0 ra y259 q_tape tT nN (rtr3 tT nN sS) (hq260) (hq_tape) (hrr266) (hTQ)) (cwV 2 hts gX11_readRouter_X11_readNumber rfl rfl rfl (by decide +kernel) ⟨Nat.le_of_ble_eq_true rfl, Nat.le_of_ble_eq_true rfl⟩) ⟨fun a U g mk q => by obtain ⟨q0, q1, qP, qE, qD⟩ := q; exact ⟨q0, q1, qP, kE_call qE, qD⟩, va_recv hK hP (ci := 11) (q0 := 7) rfl rfl, fun U hU hW => ⟨rfl, by rw [hU], by rw [hU]; exact hPc, kE_warm hW hE, hDc.weaken (fun _ _ _ _ => trivial)⟩⟩ rfl rfl hl.1 rfl (lv_room (Nat.le_of_ble_eq_true rfl)) dX11_readRouter_97 ⟨Nat.le_of_ble_eq_true rfl, Nat.le_of_ble_eq_true rfl⟩) hS (fun q _ h => hFc q h) hFc (fun r267 u t H locs ht hvm w268 hB hz1 hk1 hS => ?_)
        obtain ⟨y269, hq270, hq271, hq272, hq273, hq274, hq275, hP1, hD1⟩ := hB
        try dsimp only at w268
        obtain ⟨hPa, hDa⟩ := hJn (w1 := [(m0, .inr (11, oX11 ra y269)), (ra 13, .inl (kI, 700, .inl q_tape))]) hk1 ht hP1 hD1
        clear hP hD hPc hDc hFc hJn hP1 hD1 hk1
        have hP : va_P (dC, dI) vwCl [(ra 2, .inl (kI, 8, .inl q_told)), (ra 3, .inl (kI, 24, .inl (upd q_kind (12 + (q_told 4)).toNatClampNeg r16))), (ra 4, .inl (kI, 24, .inl (upd q_salt (12 + (q_told 4)).toNatClampNeg r257))), (ra 5, .inl (kI, 24, .inl q_pace)), (ra 6, .inl (kI, 24, .inl q_mute)), (ra 7, .inl (kI, 24, .inl q_late)), (ra 1, .inl (kS, 4, .inr (.inr (.inr (.inr q_kinds))))), (m0, .inr (11, oX11 ra y269)), (ra 13, .inl (kI, 700, .inl q_tape))] H := hPa
        have hD : va_D A [(ra 2, .inl (kI, 8, .inl q_told)), (ra 3, .inl (kI, 24, .inl (upd q_kind (12 + (q_told 4)).toNatClampNeg r16))), (ra 4, .inl (kI, 24, .inl (upd q_salt (12 + (q_told 4)).toNatClampNeg r257))), (ra 5, .inl (kI, 24, .inl q_pace)), (ra 6, .inl (kI, 24, .inl q_mute)), (ra 7, .inl (kI, 24, .inl q_late)), (ra 1, .inl (kS, 4, .inr (.inr (.inr (.inr q_kinds))))), (m0, .inr (11, oX11 ra y269)), (ra 13, .inl (kI, 700, .inl q_tape))] := hDa
        clear hPa hDa
        refine W.widen (k := 0) (n := 0) (Nat.le_of_ble_eq_true rfl) (Nat.le_of_ble_eq_true rfl) ?_
        have hv3 := w268.2
        refine va_iast hx hb hK hP hD hS 3 1 rfl rfl (iv_in b15 (by decide) (by decide)) dX11_readRouter_100 (fun H locs hPa hDa hS => ?_)
        clear hP hD
        have hP : va_P (dC, dI) vwCl [(ra 2, .inl (kI, 8, .inl q_told)), (ra 3, .inl (kI, 24, .inl (upd q_kind (12 + (q_told 4)).toNatClampNeg r16))), (ra 4, .inl (kI, 24, .inl (upd q_salt (12 + (q_told 4)).toNatClampNeg r257))), (ra 5, .inl (kI, 24, .inl (upd q_pace (12 + (q_told 4)).toNatClampNeg r267))), (ra 6, .inl (kI, 24, .inl q_mute)), (ra 7, .inl (kI, 24, .inl q_late)), (ra 1, .inl (kS, 4, .inr (.inr (.inr (.inr q_kinds))))), (m0, .inr (11, oX11 ra y269)), (ra 13, .inl (kI, 700, .inl q_tape))] H := hPa
        have hD : va_D A [(ra 2, .inl (kI, 8, .inl q_told)), (ra 3, .inl (kI, 24, .inl (upd q_kind (12 + (q_told 4)).toNatClampNeg r16))), (ra 4, .inl (kI, 24, .inl (upd q_salt (12 + (q_told 4)).toNatClampNeg r257))), (ra 5, .inl (kI, 24, .inl (upd q_pace (12 + (q_told 4)).toNatClampNeg r267))), (ra 6, .inl (kI, 24, .inl q_mute)), (ra 7, .inl (kI, 24, .inl q_late)), (ra 1, .inl (kS, 4, .inr (.inr (.inr (.inr q_kinds))))), (m0, .inr (11, oX11 ra y269)), (ra 13, .inl (kI, 700, .inl q_tape))] := hDa
        clear hPa hDa
        have hrr276 : RRd tT nN y269 (rtr4 tT nN sS) := hq273
        refine lv_aload_n hx hb dX11_readRouter_101 rfl (lv_at hl 2 rfl) ?_
        refine va_get (D := (dC, dI)) (ci := 11) (v := .ref (ra 6)) (C := RX11) (T := TX11) (N := 61) hx hb hts hin11 hown hK hP 7 rfl rfl 7 (Nat.le_of_ble_eq_true rfl) hw_6 (fun _ h9 => h9) rfl dX11_readRouter_102 ?_
        refine lv_iload_n hx hb dX11_readRouter_105 rfl (lv_at hl 1 rfl) ?_
        refine lv_aload_n hx hb dX11_readRouter_106 rfl (lv_at hl 2 rfl) ?_
        refine va_ldcS hx hb hown hKL.2.2.2.2.2.2.2.2.2.2.2.2.2.2.2.2.2.2.2.2.2.1 dX11_readRouter_107 ?_
        obtain ⟨hPc, hDc, hFc, hJn⟩ := cl_a (wc := [(m0, .inr (11, oX11 ra y269)), (ra 13, .inl (kI, 700, .inl q_tape))]) (wr := [(ra 2, .inl (kI, 8, .inl q_told)), (ra 3, .inl (kI, 24, .inl (upd q_kind (12 + (q_told 4)).toNatClampNeg r16))), (ra 4, .inl (kI, 24, .inl (upd q_salt (12 + (q_told 4)).toNatClampNeg r257))), (ra 5, .inl (kI, 24, .inl (upd q_pace (12 + (q_told 4)).toNatClampNeg r267))), (ra 6, .inl (kI, 24, .inl q_mute)), (ra 7, .inl (kI, 24, .inl q_late)), (ra 1, .inl (kS, 4, .inr (.inr (.inr (.inr q_kinds)))))]) hP hD hS hA [7, 8] [0, 1, 2, 3, 4, 5, 6] rfl rfl (by decide +kernel)
        refine va_calli (va_runV (As := [.ref (adK 8)]) (rest := [.int (12 + (q_told 4)), .ref (ra 6)]) ⟨hx, hb, hml, hown, hts⟩ (s11_is l dC dI kB kI kJ kZ kC kS H.size adK adV m0 ra y269 q_tape 8 tT nN (rtr4 tT nN sS) (hq270) (hq_tape) ((by decide)) (hrr276) (hTQ)) (cwV 1 hts gX11_readRouter_X11_is rfl rfl rfl (by decide +kernel) ⟨Nat.le_of_ble_eq_true rfl, Nat.le_of_ble_eq_true rfl⟩) ⟨fun a U g mk q => by obtain ⟨q0, q1, qP, qE, qD, qL⟩ := q; exact ⟨q0, q1, qP, kE_call qE, qD, kL_call qL⟩, va_recv hK hP (ci := 11) (q0 := 7) rfl rfl, fun U hU hW => ⟨rfl, by rw [hU], by rw [hU]; exact hPc, kE_warm hW hE, hDc.weaken (fun _ _ _ _ => trivial), kL_at hKL hS hFc hW hU⟩⟩ rfl rfl hl.1 rfl (lv_room (Nat.le_of_ble_eq_true rfl)) dX11_readRouter_109 ⟨Nat.le_of_ble_eq_true rfl, Nat.le_of_ble_eq_true rfl⟩) hS (fun q _ h => hFc q h) hFc (fun r277 u t H locs ht hvm w278 hB hz1 hk1 hS => ?_)
        obtain ⟨hP1, hD1⟩ := hB
        try dsimp only at w278
        obtain ⟨hPa, hDa⟩ := hJn (w1 := [(m0, .inr (11, oX11 ra y269)), (ra 13, .inl (kI, 700, .inl q_tape))]) hk1 ht hP1 hD1
        clear hP hD hPc hDc hFc hJn hP1 hD1 hk1
        have hP : va_P (dC, dI) vwCl [(ra 2, .inl (kI, 8, .inl q_told)), (ra 3, .inl (kI, 24, .inl (upd q_kind (12 + (q_told 4)).toNatClampNeg r16))), (ra 4, .inl (kI, 24, .inl (upd q_salt (12 + (q_told 4)).toNatClampNeg r257))), (ra 5, .inl (kI, 24, .inl (upd q_pace (12 + (q_told 4)).toNatClampNeg r267))), (ra 6, .inl (kI, 24, .inl q_mute)), (ra 7, .inl (kI, 24, .inl q_late)), (ra 1, .inl (kS, 4, .inr (.inr (.inr (.inr q_kinds))))), (m0, .inr (11, oX11 ra y269)), (ra 13, .inl (kI, 700, .inl q_tape))] H := hPa
        have hD : va_D A [(ra 2, .inl (kI, 8, .inl q_told)), (ra 3, .inl (kI, 24, .inl (upd q_kind (12 + (q_told 4)).toNatClampNeg r16))), (ra 4, .inl (kI, 24, .inl (upd q_salt (12 + (q_told 4)).toNatClampNeg r257))), (ra 5, .inl (kI, 24, .inl (upd q_pace (12 + (q_told 4)).toNatClampNeg r267))), (ra 6, .inl (kI, 24, .inl q_mute)), (ra 7, .inl (kI, 24, .inl q_late)), (ra 1, .inl (kS, 4, .inr (.inr (.inr (.inr q_kinds))))), (m0, .inr (11, oX11 ra y269)), (ra 13, .inl (kI, 700, .inl q_tape))] := hDa
        clear hPa hDa
        refine W.widen (k := 0) (n := 0) (Nat.le_of_ble_eq_true rfl) (Nat.le_of_ble_eq_true rfl) ?_
        obtain ⟨w278, b279⟩ := w278
        subst w278
        refine lv_if_eq (tgt := 119) hx hb dX11_readRouter_112 rfl (fun c280 => ?_) (fun c280 => ?_)
        · have b281 : iv 0 0 (wS tT 8 (rtr4 tT nN sS)) := iv_eqL c280 ivk_0
          refine lv_iconst (v := 0) hx hb dX11_readRouter_119 ic_0 ?_
          refine va_iast hx hb hK hP hD hS 4 1 rfl rfl (iv_in b15 (by decide) (by decide)) dX11_readRouter_120 (fun H locs hPa hDa hS => ?_)
          clear hP hD
          have hP : va_P (dC, dI) vwCl [(ra 2, .inl (kI, 8, .inl q_told)), (ra 3, .inl (kI, 24, .inl (upd q_kind (12 + (q_told 4)).toNatClampNeg r16))), (ra 4, .inl (kI, 24, .inl (upd q_salt (12 + (q_told 4)).toNatClampNeg r257))), (ra 5, .inl (kI, 24, .inl (upd q_pace (12 + (q_told 4)).toNatClampNeg r267))), (ra 6, .inl (kI, 24, .inl (upd q_mute (12 + (q_told 4)).toNatClampNeg 0))), (ra 7, .inl (kI, 24, .inl q_late)), (ra 1, .inl (kS, 4, .inr (.inr (.inr (.inr q_kinds))))), (m0, .inr (11, oX11 ra y269)), (ra 13, .inl (kI, 700, .inl q_tape))] H := hPa
          have hD : va_D A [(ra 2, .inl (kI, 8, .inl q_told)), (ra 3, .inl (kI, 24, .inl (upd q_kind (12 + (q_told 4)).toNatClampNeg r16))), (ra 4, .inl (kI, 24, .inl (upd q_salt (12 + (q_told 4)).toNatClampNeg r257))), (ra 5, .inl (kI, 24, .inl (upd q_pace (12 + (q_told 4)).toNatClampNeg r267))), (ra 6, .inl (kI, 24, .inl (upd q_mute (12 + (q_told 4)).toNatClampNeg 0))), (ra 7, .inl (kI, 24, .inl q_late)), (ra 1, .inl (kS, 4, .inr (.inr (.inr (.inr q_kinds))))), (m0, .inr (11, oX11 ra y269)), (ra 13, .inl (kI, 700, .inl q_tape))] := hDa
          clear hPa hDa
          refine lv_aload_n hx hb dX11_readRouter_121 rfl (lv_at hl 2 rfl) ?_
          refine va_get (D := (dC, dI)) (ci := 11) (v := .ref (ra 7)) (C := RX11) (T := TX11) (N := 61) hx hb hts hin11 hown hK hP 7 rfl rfl 8 (Nat.le_of_ble_eq_true rfl) hw_7 (fun _ h9 => h9) rfl dX11_readRouter_122 ?_
          refine lv_iload_n hx hb dX11_readRouter_125 rfl (lv_at hl 1 rfl) ?_
          refine lv_aload_n hx hb dX11_readRouter_126 rfl (lv_at hl 2 rfl) ?_
          refine va_ldcS hx hb hown hKL.2.2.2.2.2.2.2.2.2.2.2.2.2.2.2.2.2.2.2.2.2.2 dX11_readRouter_127 ?_
          obtain ⟨hPc, hDc, hFc, hJn⟩ := cl_a (wc := [(m0, .inr (11, oX11 ra y269)), (ra 13, .inl (kI, 700, .inl q_tape))]) (wr := [(ra 2, .inl (kI, 8, .inl q_told)), (ra 3, .inl (kI, 24, .inl (upd q_kind (12 + (q_told 4)).toNatClampNeg r16))), (ra 4, .inl (kI, 24, .inl (upd q_salt (12 + (q_told 4)).toNatClampNeg r257))), (ra 5, .inl (kI, 24, .inl (upd q_pace (12 + (q_told 4)).toNatClampNeg r267))), (ra 6, .inl (kI, 24, .inl (upd q_mute (12 + (q_told 4)).toNatClampNeg 0))), (ra 7, .inl (kI, 24, .inl q_late)), (ra 1, .inl (kS, 4, .inr (.inr (.inr (.inr q_kinds)))))]) hP hD hS hA [7, 8] [0, 1, 2, 3, 4, 5, 6] rfl rfl (by decide +kernel)
          refine va_calli (va_runV (As := [.ref (adK 9)]) (rest := [.int (12 + (q_told 4)), .ref (ra 7)]) ⟨hx, hb, hml, hown, hts⟩ (s11_is l dC dI kB kI kJ kZ kC kS H.size adK adV m0 ra y269 q_tape 9 tT nN (rtr4 tT nN sS) (hq270) (hq_tape) ((by decide)) (hrr276) (hTQ)) (cwV 1 hts gX11_readRouter_X11_is rfl rfl rfl (by decide +kernel) ⟨Nat.le_of_ble_eq_true rfl, Nat.le_of_ble_eq_true rfl⟩) ⟨fun a U g mk q => by obtain ⟨q0, q1, qP, qE, qD, qL⟩ := q; exact ⟨q0, q1, qP, kE_call qE, qD, kL_call qL⟩, va_recv hK hP (ci := 11) (q0 := 7) rfl rfl, fun U hU hW => ⟨rfl, by rw [hU], by rw [hU]; exact hPc, kE_warm hW hE, hDc.weaken (fun _ _ _ _ => trivial), kL_at hKL hS hFc hW hU⟩⟩ rfl rfl hl.1 rfl (lv_room (Nat.le_of_ble_eq_true rfl)) dX11_readRouter_129 ⟨Nat.le_of_ble_eq_true rfl, Nat.le_of_ble_eq_true rfl⟩) hS (fun q _ h => hFc q h) hFc (fun r282 u t H locs ht hvm w283 hB hz1 hk1 hS => ?_)
          obtain ⟨hP1, hD1⟩ := hB
          try dsimp only at w283
          obtain ⟨hPa, hDa⟩ := hJn (w1 := [(m0, .inr (11, oX11 ra y269)), (ra 13, .inl (kI, 700, .inl q_tape))]) hk1 ht hP1 hD1
          clear hP hD hPc hDc hFc hJn hP1 hD1 hk1
          have hP : va_P (dC, dI) vwCl [(ra 2, .inl (kI, 8, .inl q_told)), (ra 3, .inl (kI, 24, .inl (upd q_kind (12 + (q_told 4)).toNatClampNeg r16))), (ra 4, .inl (kI, 24, .inl (upd q_salt (12 + (q_told 4)).toNatClampNeg r257))), (ra 5, .inl (kI, 24, .inl (upd q_pace (12 + (q_told 4)).toNatClampNeg r267))), (ra 6, .inl (kI, 24, .inl (upd q_mute (12 + (q_told 4)).toNatClampNeg 0))), (ra 7, .inl (kI, 24, .inl q_late)), (ra 1, .inl (kS, 4, .inr (.inr (.inr (.inr q_kinds))))), (m0, .inr (11, oX11 ra y269)), (ra 13, .inl (kI, 700, .inl q_tape))] H := hPa
          have hD : va_D A [(ra 2, .inl (kI, 8, .inl q_told)), (ra 3, .inl (kI, 24, .inl (upd q_kind (12 + (q_told 4)).toNatClampNeg r16))), (ra 4, .inl (kI, 24, .inl (upd q_salt (12 + (q_told 4)).toNatClampNeg r257))), (ra 5, .inl (kI, 24, .inl (upd q_pace (12 + (q_told 4)).toNatClampNeg r267))), (ra 6, .inl (kI, 24, .inl (upd q_mute (12 + (q_told 4)).toNatClampNeg 0))), (ra 7, .inl (kI, 24, .inl q_late)), (ra 1, .inl (kS, 4, .inr (.inr (.inr (.inr q_kinds))))), (m0, .inr (11, oX11 ra y269)), (ra 13, .inl (kI, 700, .inl q_tape))] := hDa
          clear hPa hDa
          refine W.widen (k := 0) (n := 0) (Nat.le_of_ble_eq_true rfl) (Nat.le_of_ble_eq_true rfl) ?_
          obtain ⟨w283, b284⟩ := w283
          subst w283
          refine lv_if_eq (tgt := 139) hx hb dX11_readRouter_132 rfl (fun c285 => ?_) (fun c285 => ?_)
          · have b286 : iv 0 0 (wS tT 9 (rtr4 tT nN sS)) := iv_eqL c285 ivk_0
            refine lv_iconst (v := 0) hx hb dX11_readRouter_139 ic_0 ?_
            refine va_iast hx hb hK hP hD hS 5 1 rfl rfl (iv_in b15 (by decide) (by decide)) dX11_readRouter_140 (fun H locs hPa hDa hS => ?_)
            clear hP hD
            have hP : va_P (dC, dI) vwCl [(ra 2, .inl (kI, 8, .inl q_told)), (ra 3, .inl (kI, 24, .inl (upd q_kind (12 + (q_told 4)).toNatClampNeg r16))), (ra 4, .inl (kI, 24, .inl (upd q_salt (12 + (q_told 4)).toNatClampNeg r257))), (ra 5, .inl (kI, 24, .inl (upd q_pace (12 + (q_told 4)).toNatClampNeg r267))), (ra 6, .inl (kI, 24, .inl (upd q_mute (12 + (q_told 4)).toNatClampNeg 0))), (ra 7, .inl (kI, 24, .inl (upd q_late (12 + (q_told 4)).toNatClampNeg 0))), (ra 1, .inl (kS, 4, .inr (.inr (.inr (.inr q_kinds))))), (m0, .inr (11, oX11 ra y269)), (ra 13, .inl (kI, 700, .inl q_tape))] H := hPa
            have hD : va_D A [(ra 2, .inl (kI, 8, .inl q_told)), (ra 3, .inl (kI, 24, .inl (upd q_kind (12 + (q_told 4)).toNatClampNeg r16))), (ra 4, .inl (kI, 24, .inl (upd q_salt (12 + (q_told 4)).toNatClampNeg r257))), (ra 5, .inl (kI, 24, .inl (upd q_pace (12 + (q_told 4)).toNatClampNeg r267))), (ra 6, .inl (kI, 24, .inl (upd q_mute (12 + (q_told 4)).toNatClampNeg 0))), (ra 7, .inl (kI, 24, .inl (upd q_late (12 + (q_told 4)).toNatClampNeg 0))), (ra 1, .inl (kS, 4, .inr (.inr (.inr (.inr q_kinds))))), (m0, .inr (11, oX11 ra y269)), (ra 13, .inl (kI, 700, .inl q_tape))] := hDa
            clear hPa hDa
            refine lv_aload_n hx hb dX11_readRouter_141 rfl (lv_at hl 2 rfl) ?_
            refine va_get (D := (dC, dI)) (ci := 11) (v := .int (y269 8)) (C := RX11) (T := TX11) (N := 61) hx hb hts hin11 hown hK hP 7 rfl rfl 22 (Nat.le_of_ble_eq_true rfl) hw_1 (fun _ h9 => h9) rfl dX11_readRouter_142 ?_
            refine lv_if_ne (tgt := 168) hx hb dX11_readRouter_145 rfl (fun c287 => ?_) (fun c287 => ?_)
            · have b288 : iv 1 5 (y269 8) := iv_neLo c287 (hq270 8 : iv 0 5 (y269 8)) ivk_0 (by decide) (by decide)
              have hrr289 : RRd tT nN y269 (manT tT nN (rtr4 tT nN sS)) := (mq_b hrr276 c287) ▸ hrr276
              refine lv_aload_n hx hb dX11_readRouter_168 rfl (lv_at hl 2 rfl) ?_
              refine va_get (D := (dC, dI)) (ci := 11) (v := .ref (ra 2)) (C := RX11) (T := TX11) (N := 61) hx hb hts hin11 hown hK hP 7 rfl rfl 3 (Nat.le_of_ble_eq_true rfl) hw_0 (fun _ h9 => h9) rfl dX11_readRouter_169 ?_
              refine lv_iconst (v := 4) hx hb dX11_readRouter_172 ic_4 ?_
              refine lv_dup2_11 hx hb dX11_readRouter_173 rfl rfl ?_
              refine va_iald hx hb hK hP 0 1 rfl rfl (vp_in_nI (n := 4) (by decide) (by decide)) dX11_readRouter_174 ?_
              refine W.eq (g2 := F0 m 175 ls [.int (q_told 4), .int 4, .ref (ra 2)]) rfl ?_
              refine lv_iconst (v := 1) hx hb dX11_readRouter_175 ic_1 ?_
              refine lv_iadd hx hb dX11_readRouter_176 ?_
              have b290 : iv 1 12 ((q_told 4) + 1) := iv_add b2 ivk_1 (by decide) (by decide) (by decide) (by decide)
              refine va_iast hx hb hK hP hD hS 0 1 rfl rfl (vp_in_nI (n := 4) (by decide) (by decide)) dX11_readRouter_177 (fun H locs hPa hDa hS => ?_)
              clear hP hD
              have hP : va_P (dC, dI) vwCl [(ra 2, .inl (kI, 8, .inl (upd q_told 4 ((q_told 4) + 1)))), (ra 3, .inl (kI, 24, .inl (upd q_kind (12 + (q_told 4)).toNatClampNeg r16))), (ra 4, .inl (kI, 24, .inl (upd q_salt (12 + (q_told 4)).toNatClampNeg r257))), (ra 5, .inl (kI, 24, .inl (upd q_pace (12 + (q_told 4)).toNatClampNeg r267))), (ra 6, .inl (kI, 24, .inl (upd q_mute (12 + (q_told 4)).toNatClampNeg 0))), (ra 7, .inl (kI, 24, .inl (upd q_late (12 + (q_told 4)).toNatClampNeg 0))), (ra 1, .inl (kS, 4, .inr (.inr (.inr (.inr q_kinds))))), (m0, .inr (11, oX11 ra y269)), (ra 13, .inl (kI, 700, .inl q_tape))] H := hPa
              have hD : va_D A [(ra 2, .inl (kI, 8, .inl (upd q_told 4 ((q_told 4) + 1)))), (ra 3, .inl (kI, 24, .inl (upd q_kind (12 + (q_told 4)).toNatClampNeg r16))), (ra 4, .inl (kI, 24, .inl (upd q_salt (12 + (q_told 4)).toNatClampNeg r257))), (ra 5, .inl (kI, 24, .inl (upd q_pace (12 + (q_told 4)).toNatClampNeg r267))), (ra 6, .inl (kI, 24, .inl (upd q_mute (12 + (q_told 4)).toNatClampNeg 0))), (ra 7, .inl (kI, 24, .inl (upd q_late (12 + (q_told 4)).toNatClampNeg 0))), (ra 1, .inl (kS, 4, .inr (.inr (.inr (.inr q_kinds))))), (m0, .inr (11, oX11 ra y269)), (ra 13, .inl (kI, 700, .inl q_tape))] := hDa
              clear hPa hDa
              have hPD9 := cl_s (wc := [(m0, .inr (11, oX11 ra y269)), (ra 2, .inl (kI, 8, .inl (upd q_told 4 ((q_told 4) + 1)))), (ra 3, .inl (kI, 24, .inl (upd q_kind (12 + (q_told 4)).toNatClampNeg r16))), (ra 4, .inl (kI, 24, .inl (upd q_salt (12 + (q_told 4)).toNatClampNeg r257))), (ra 5, .inl (kI, 24, .inl (upd q_pace (12 + (q_told 4)).toNatClampNeg r267))), (ra 6, .inl (kI, 24, .inl (upd q_mute (12 + (q_told 4)).toNatClampNeg 0))), (ra 7, .inl (kI, 24, .inl (upd q_late (12 + (q_told 4)).toNatClampNeg 0))), (ra 13, .inl (kI, 700, .inl q_tape)), (ra 1, .inl (kS, 4, .inr (.inr (.inr (.inr q_kinds)))))]) hP hD [7, 0, 1, 2, 3, 4, 5, 8, 6] rfl (by decide +kernel)
              have hP9 := hPD9.1
              have hD9 := hPD9.2
              exact W.vret hx hb hr (fun t ht hW => ⟨⟨(), rfl, trivial, y269, upd q_told 4 ((q_told 4) + 1), upd q_kind (12 + (q_told 4)).toNatClampNeg r16, upd q_salt (12 + (q_told 4)).toNatClampNeg r257, upd q_pace (12 + (q_told 4)).toNatClampNeg r267, upd q_mute (12 + (q_told 4)).toNatClampNeg 0, upd q_late (12 + (q_told 4)).toNatClampNeg 0, hq270, (fI_u hq_told (k := 4) ((iv_w b290 (by decide) (by decide)))), (fI_u hq_salt (k := (12 + (q_told 4)).toNatClampNeg) (w258.1)), (show (x0 2).toInt ≤ (y269 2).toInt from by omega), (show y269 3 = x0 3 from hq272.trans (hq262.trans (hq251.trans (hq10)))), (show ∀ j : Nat, (j : Int) < (q_told 1).toInt → (q_from j).toInt < (q_to j).toInt from hLT), (show ∀ j : Nat, (j : Int) < (q_told 5).toInt → (q_from (20 + j)).toInt < (q_to (20 + j)).toInt from hLD), (show RRd tT nN y269 (rtrS tT nN sS (q_told 4)) from it_f (Q := RRd tT nN y269) c1 (hrr289)), fun w => absurd w c287, low_t (by decide), (show y269 1 = x0 1 from hq274.trans (hq264.trans (hq253.trans (hq13)))), (show y269 10 = x0 10 from hq275.trans (hq265.trans (hq254.trans (hq14)))), by rw [ht]; exact hP9, hD9⟩, hS.F ht⟩) hS.2.2 dX11_readRouter_178
            · have b291 : iv 0 0 (y269 8) := iv_eqL c287 ivk_0
              refine lv_aload_n hx hb dX11_readRouter_148 rfl (lv_at hl 2 rfl) ?_
              refine va_get (D := (dC, dI)) (ci := 11) (v := .ref (ra 6)) (C := RX11) (T := TX11) (N := 61) hx hb hts hin11 hown hK hP 7 rfl rfl 7 (Nat.le_of_ble_eq_true rfl) hw_6 (fun _ h9 => h9) rfl dX11_readRouter_149 ?_
              refine lv_iload_n hx hb dX11_readRouter_152 rfl (lv_at hl 1 rfl) ?_
              refine va_iald hx hb hK hP 4 1 rfl rfl (iv_in b15 (by decide) (by decide)) dX11_readRouter_153 ?_
              refine W.eq (g2 := F0 m 154 ls [.int 0]) (by rw [upd_eq]) ?_
              refine lv_aload_n hx hb dX11_readRouter_154 rfl (lv_at hl 2 rfl) ?_
              refine va_get (D := (dC, dI)) (ci := 11) (v := .ref (ra 7)) (C := RX11) (T := TX11) (N := 61) hx hb hts hin11 hown hK hP 7 rfl rfl 8 (Nat.le_of_ble_eq_true rfl) hw_7 (fun _ h9 => h9) rfl dX11_readRouter_155 ?_
              refine lv_iload_n hx hb dX11_readRouter_158 rfl (lv_at hl 1 rfl) ?_
              refine va_iald hx hb hK hP 5 1 rfl rfl (iv_in b15 (by decide) (by decide)) dX11_readRouter_159 ?_
              refine W.eq (g2 := F0 m 160 ls [.int 0, .int 0]) (by rw [upd_eq]) ?_
              refine lv_iadd hx hb dX11_readRouter_160 ?_
              refine lv_topi (fun z292 e293 => ?_)
              obtain rfl : z292 = (0 : Int32) := e293.trans (by decide)
              refine lv_if_le (tgt := 168) hx hb dX11_readRouter_161 rfl (fun _ => ?_) (fun c9 => absurd (by decide) c9)
              have hrr294 : RRd tT nN y269 (manT tT nN (rtr4 tT nN sS)) := (mq_0 hrr276 c287 c280 c285) ▸ hrr276
              refine lv_aload_n hx hb dX11_readRouter_168 rfl (lv_at hl 2 rfl) ?_
              refine va_get (D := (dC, dI)) (ci := 11) (v := .ref (ra 2)) (C := RX11) (T := TX11) (N := 61) hx hb hts hin11 hown hK hP 7 rfl rfl 3 (Nat.le_of_ble_eq_true rfl) hw_0 (fun _ h9 => h9) rfl dX11_readRouter_169 ?_
              refine lv_iconst (v := 4) hx hb dX11_readRouter_172 ic_4 ?_
              refine lv_dup2_11 hx hb dX11_readRouter_173 rfl rfl ?_
              refine va_iald hx hb hK hP 0 1 rfl rfl (vp_in_nI (n := 4) (by decide) (by decide)) dX11_readRouter_174 ?_
              refine W.eq (g2 := F0 m 175 ls [.int (q_told 4), .int 4, .ref (ra 2)]) rfl ?_
              refine lv_iconst (v := 1) hx hb dX11_readRouter_175 ic_1 ?_
              refine lv_iadd hx hb dX11_readRouter_176 ?_
              have b295 : iv 1 12 ((q_told 4) + 1) := iv_add b2 ivk_1 (by decide) (by decide) (by decide) (by decide)
              refine va_iast hx hb hK hP hD hS 0 1 rfl rfl (vp_in_nI (n := 4) (by decide) (by decide)) dX11_readRouter_177 (fun H locs hPa hDa hS => ?_)
              clear hP hD
              have hP : va_P (dC, dI) vwCl [(ra 2, .inl (kI, 8, .inl (upd q_told 4 ((q_told 4) + 1)))), (ra 3, .inl (kI, 24, .inl (upd q_kind (12 + (q_told 4)).toNatClampNeg r16))), (ra 4, .inl (kI, 24, .inl (upd q_salt (12 + (q_told 4)).toNatClampNeg r257))), (ra 5, .inl (kI, 24, .inl (upd q_pace (12 + (q_told 4)).toNatClampNeg r267))), (ra 6, .inl (kI, 24, .inl (upd q_mute (12 + (q_told 4)).toNatClampNeg 0))), (ra 7, .inl (kI, 24, .inl (upd q_late (12 + (q_told 4)).toNatClampNeg 0))), (ra 1, .inl (kS, 4, .inr (.inr (.inr (.inr q_kinds))))), (m0, .inr (11, oX11 ra y269)), (ra 13, .inl (kI, 700, .inl q_tape))] H := hPa
              have hD : va_D A [(ra 2, .inl (kI, 8, .inl (upd q_told 4 ((q_told 4) + 1)))), (ra 3, .inl (kI, 24, .inl (upd q_kind (12 + (q_told 4)).toNatClampNeg r16))), (ra 4, .inl (kI, 24, .inl (upd q_salt (12 + (q_told 4)).toNatClampNeg r257))), (ra 5, .inl (kI, 24, .inl (upd q_pace (12 + (q_told 4)).toNatClampNeg r267))), (ra 6, .inl (kI, 24, .inl (upd q_mute (12 + (q_told 4)).toNatClampNeg 0))), (ra 7, .inl (kI, 24, .inl (upd q_late (12 + (q_told 4)).toNatClampNeg 0))), (ra 1, .inl (kS, 4, .inr (.inr (.inr (.inr q_kinds))))), (m0, .inr (11, oX11 ra y269)), (ra 13, .inl (kI, 700, .inl q_tape))] := hDa
              clear hPa hDa
              have hPD9 := cl_s (wc := [(m0, .inr (11, oX11 ra y269)), (ra 2, .inl (kI, 8, .inl (upd q_told 4 ((q_told 4) + 1)))), (ra 3, .inl (kI, 24, .inl (upd q_kind (12 + (q_told 4)).toNatClampNeg r16))), (ra 4, .inl (kI, 24, .inl (upd q_salt (12 + (q_told 4)).toNatClampNeg r257))), (ra 5, .inl (kI, 24, .inl (upd q_pace (12 + (q_told 4)).toNatClampNeg r267))), (ra 6, .inl (kI, 24, .inl (upd q_mute (12 + (q_told 4)).toNatClampNeg 0))), (ra 7, .inl (kI, 24, .inl (upd q_late (12 + (q_told 4)).toNatClampNeg 0))), (ra 13, .inl (kI, 700, .inl q_tape)), (ra 1, .inl (kS, 4, .inr (.inr (.inr (.inr q_kinds)))))]) hP hD [7, 0, 1, 2, 3, 4, 5, 8, 6] rfl (by decide +kernel)
              have hP9 := hPD9.1
              have hD9 := hPD9.2
              exact W.vret hx hb hr (fun t ht hW => ⟨⟨(), rfl, trivial, y269, upd q_told 4 ((q_told 4) + 1), upd q_kind (12 + (q_told 4)).toNatClampNeg r16, upd q_salt (12 + (q_told 4)).toNatClampNeg r257, upd q_pace (12 + (q_told 4)).toNatClampNeg r267, upd q_mute (12 + (q_told 4)).toNatClampNeg 0, upd q_late (12 + (q_told 4)).toNatClampNeg 0, hq270, (fI_u hq_told (k := 4) ((iv_w b295 (by decide) (by decide)))), (fI_u hq_salt (k := (12 + (q_told 4)).toNatClampNeg) (w258.1)), (show (x0 2).toInt ≤ (y269 2).toInt from by omega), (show y269 3 = x0 3 from hq272.trans (hq262.trans (hq251.trans (hq10)))), (show ∀ j : Nat, (j : Int) < (q_told 1).toInt → (q_from j).toInt < (q_to j).toInt from hLT), (show ∀ j : Nat, (j : Int) < (q_told 5).toInt → (q_from (20 + j)).toInt < (q_to (20 + j)).toInt from hLD), (show RRd tT nN y269 (rtrS tT nN sS (q_told 4)) from it_f (Q := RRd tT nN y269) c1 (hrr294)), fun _ => absurd (ok_next (ok_num (ok_next (ok_num (ok_next (rr_ok hrr276 c287)))))) (fun w => ok_fail ((kq_n hwk c18).symm ▸ w)), low_t (by decide), (show y269 1 = x0 1 from hq274.trans (hq264.trans (hq253.trans (hq13)))), (show y269 10 = x0 10 from hq275.trans (hq265.trans (hq254.trans (hq14)))), by rw [ht]; exact hP9, hD9⟩, hS.F ht⟩) hS.2.2 dX11_readRouter_178
          · have b296 : iv 1 1 (wS tT 9 (rtr4 tT nN sS)) := iv_neLo c285 b284 ivk_0 (by decide) (by decide)
            refine lv_iconst (v := 1) hx hb dX11_readRouter_135 ic_1 ?_
            refine lv_goto (tgt := 140) hx hb dX11_readRouter_136 rfl ?_
            refine va_iast hx hb hK hP hD hS 5 1 rfl rfl (iv_in b15 (by decide) (by decide)) dX11_readRouter_140 (fun H locs hPa hDa hS => ?_)
            clear hP hD
            have hP : va_P (dC, dI) vwCl [(ra 2, .inl (kI, 8, .inl q_told)), (ra 3, .inl (kI, 24, .inl (upd q_kind (12 + (q_told 4)).toNatClampNeg r16))), (ra 4, .inl (kI, 24, .inl (upd q_salt (12 + (q_told 4)).toNatClampNeg r257))), (ra 5, .inl (kI, 24, .inl (upd q_pace (12 + (q_told 4)).toNatClampNeg r267))), (ra 6, .inl (kI, 24, .inl (upd q_mute (12 + (q_told 4)).toNatClampNeg 0))), (ra 7, .inl (kI, 24, .inl (upd q_late (12 + (q_told 4)).toNatClampNeg 1))), (ra 1, .inl (kS, 4, .inr (.inr (.inr (.inr q_kinds))))), (m0, .inr (11, oX11 ra y269)), (ra 13, .inl (kI, 700, .inl q_tape))] H := hPa
            have hD : va_D A [(ra 2, .inl (kI, 8, .inl q_told)), (ra 3, .inl (kI, 24, .inl (upd q_kind (12 + (q_told 4)).toNatClampNeg r16))), (ra 4, .inl (kI, 24, .inl (upd q_salt (12 + (q_told 4)).toNatClampNeg r257))), (ra 5, .inl (kI, 24, .inl (upd q_pace (12 + (q_told 4)).toNatClampNeg r267))), (ra 6, .inl (kI, 24, .inl (upd q_mute (12 + (q_told 4)).toNatClampNeg 0))), (ra 7, .inl (kI, 24, .inl (upd q_late (12 + (q_told 4)).toNatClampNeg 1))), (ra 1, .inl (kS, 4, .inr (.inr (.inr (.inr q_kinds))))), (m0, .inr (11, oX11 ra y269)), (ra 13, .inl (kI, 700, .inl q_tape))] := hDa
            clear hPa hDa
            refine lv_aload_n hx hb dX11_readRouter_141 rfl (lv_at hl 2 rfl) ?_
            refine va_get (D := (dC, dI)) (ci := 11) (v := .int (y269 8)) (C := RX11) (T := TX11) (N := 61) hx hb hts hin11 hown hK hP 7 rfl rfl 22 (Nat.le_of_ble_eq_true rfl) hw_1 (fun _ h9 => h9) rfl dX11_readRouter_142 ?_
            refine lv_if_ne (tgt := 168) hx hb dX11_readRouter_145 rfl (fun c297 => ?_) (fun c297 => ?_)
            · have b298 : iv 1 5 (y269 8) := iv_neLo c297 (hq270 8 : iv 0 5 (y269 8)) ivk_0 (by decide) (by decide)
              have hrr299 : RRd tT nN y269 (manT tT nN (rtr4 tT nN sS)) := (mq_b hrr276 c297) ▸ hrr276
              refine lv_aload_n hx hb dX11_readRouter_168 rfl (lv_at hl 2 rfl) ?_
              refine va_get (D := (dC, dI)) (ci := 11) (v := .ref (ra 2)) (C := RX11) (T := TX11) (N := 61) hx hb hts hin11 hown hK hP 7 rfl rfl 3 (Nat.le_of_ble_eq_true rfl) hw_0 (fun _ h9 => h9) rfl dX11_readRouter_169 ?_
              refine lv_iconst (v := 4) hx hb dX11_readRouter_172 ic_4 ?_
              refine lv_dup2_11 hx hb dX11_readRouter_173 rfl rfl ?_
              refine va_iald hx hb hK hP 0 1 rfl rfl (vp_in_nI (n := 4) (by decide) (by decide)) dX11_readRouter_174 ?_
              refine W.eq (g2 := F0 m 175 ls [.int (q_told 4), .int 4, .ref (ra 2)]) rfl ?_
              refine lv_iconst (v := 1) hx hb dX11_readRouter_175 ic_1 ?_
              refine lv_iadd hx hb dX11_readRouter_176 ?_
              have b300 : iv 1 12 ((q_told 4) + 1) := iv_add b2 ivk_1 (by decide) (by decide) (by decide) (by decide)
              refine va_iast hx hb hK hP hD hS 0 1 rfl rfl (vp_in_nI (n := 4) (by decide) (by decide)) dX11_readRouter_177 (fun H locs hPa hDa hS => ?_)
              clear hP hD
              have hP : va_P (dC, dI) vwCl [(ra 2, .inl (kI, 8, .inl (upd q_told 4 ((q_told 4) + 1)))), (ra 3, .inl (kI, 24, .inl (upd q_kind (12 + (q_told 4)).toNatClampNeg r16))), (ra 4, .inl (kI, 24, .inl (upd q_salt (12 + (q_told 4)).toNatClampNeg r257))), (ra 5, .inl (kI, 24, .inl (upd q_pace (12 + (q_told 4)).toNatClampNeg r267))), (ra 6, .inl (kI, 24, .inl (upd q_mute (12 + (q_told 4)).toNatClampNeg 0))), (ra 7, .inl (kI, 24, .inl (upd q_late (12 + (q_told 4)).toNatClampNeg 1))), (ra 1, .inl (kS, 4, .inr (.inr (.inr (.inr q_kinds))))), (m0, .inr (11, oX11 ra y269)), (ra 13, .inl (kI, 700, .inl q_tape))] H := hPa
              have hD : va_D A [(ra 2, .inl (kI, 8, .inl (upd q_told 4 ((q_told 4) + 1)))), (ra 3, .inl (kI, 24, .inl (upd q_kind (12 + (q_told 4)).toNatClampNeg r16))), (ra 4, .inl (kI, 24, .inl (upd q_salt (12 + (q_told 4)).toNatClampNeg r257))), (ra 5, .inl (kI, 24, .inl (upd q_pace (12 + (q_told 4)).toNatClampNeg r267))), (ra 6, .inl (kI, 24, .inl (upd q_mute (12 + (q_told 4)).toNatClampNeg 0))), (ra 7, .inl (kI, 24, .inl (upd q_late (12 + (q_told 4)).toNatClampNeg 1))), (ra 1, .inl (kS, 4, .inr (.inr (.inr (.inr q_kinds))))), (m0, .inr (11, oX11 ra y269)), (ra 13, .inl (kI, 700, .inl q_tape))] := hDa
              clear hPa hDa
              have hPD9 := cl_s (wc := [(m0, .inr (11, oX11 ra y269)), (ra 2, .inl (kI, 8, .inl (upd q_told 4 ((q_told 4) + 1)))), (ra 3, .inl (kI, 24, .inl (upd q_kind (12 + (q_told 4)).toNatClampNeg r16))), (ra 4, .inl (kI, 24, .inl (upd q_salt (12 + (q_told 4)).toNatClampNeg r257))), (ra 5, .inl (kI, 24, .inl (upd q_pace (12 + (q_told 4)).toNatClampNeg r267))), (ra 6, .inl (kI, 24, .inl (upd q_mute (12 + (q_told 4)).toNatClampNeg 0))), (ra 7, .inl (kI, 24, .inl (upd q_late (12 + (q_told 4)).toNatClampNeg 1))), (ra 13, .inl (kI, 700, .inl q_tape)), (ra 1, .inl (kS, 4, .inr (.inr (.inr (.inr q_kinds)))))]) hP hD [7, 0, 1, 2, 3, 4, 5, 8, 6] rfl (by decide +kernel)
              have hP9 := hPD9.1
              have hD9 := hPD9.2
              exact W.vret hx hb hr (fun t ht hW => ⟨⟨(), rfl, trivial, y269, upd q_told 4 ((q_told 4) + 1), upd q_kind (12 + (q_told 4)).toNatClampNeg r16, upd q_salt (12 + (q_told 4)).toNatClampNeg r257, upd q_pace (12 + (q_told 4)).toNatClampNeg r267, upd q_mute (12 + (q_told 4)).toNatClampNeg 0, upd q_late (12 + (q_told 4)).toNatClampNeg 1, hq270, (fI_u hq_told (k := 4) ((iv_w b300 (by decide) (by decide)))), (fI_u hq_salt (k := (12 + (q_told 4)).toNatClampNeg) (w258.1)), (show (x0 2).toInt ≤ (y269 2).toInt from by omega), (show y269 3 = x0 3 from hq272.trans (hq262.trans (hq251.trans (hq10)))), (show ∀ j : Nat, (j : Int) < (q_told 1).toInt → (q_from j).toInt < (q_to j).toInt from hLT), (show ∀ j : Nat, (j : Int) < (q_told 5).toInt → (q_from (20 + j)).toInt < (q_to (20 + j)).toInt from hLD), (show RRd tT nN y269 (rtrS tT nN sS (q_told 4)) from it_f (Q := RRd tT nN y269) c1 (hrr299)), fun w => absurd w c297, low_t (by decide), (show y269 1 = x0 1 from hq274.trans (hq264.trans (hq253.trans (hq13)))), (show y269 10 = x0 10 from hq275.trans (hq265.trans (hq254.trans (hq14)))), by rw [ht]; exact hP9, hD9⟩, hS.F ht⟩) hS.2.2 dX11_readRouter_178
            · have b301 : iv 0 0 (y269 8) := iv_eqL c297 ivk_0
              refine lv_aload_n hx hb dX11_readRouter_148 rfl (lv_at hl 2 rfl) ?_
              refine va_get (D := (dC, dI)) (ci := 11) (v := .ref (ra 6)) (C := RX11) (T := TX11) (N := 61) hx hb hts hin11 hown hK hP 7 rfl rfl 7 (Nat.le_of_ble_eq_true rfl) hw_6 (fun _ h9 => h9) rfl dX11_readRouter_149 ?_
              refine lv_iload_n hx hb dX11_readRouter_152 rfl (lv_at hl 1 rfl) ?_
              refine va_iald hx hb hK hP 4 1 rfl rfl (iv_in b15 (by decide) (by decide)) dX11_readRouter_153 ?_
              refine W.eq (g2 := F0 m 154 ls [.int 0]) (by rw [upd_eq]) ?_
              refine lv_aload_n hx hb dX11_readRouter_154 rfl (lv_at hl 2 rfl) ?_
              refine va_get (D := (dC, dI)) (ci := 11) (v := .ref (ra 7)) (C := RX11) (T := TX11) (N := 61) hx hb hts hin11 hown hK hP 7 rfl rfl 8 (Nat.le_of_ble_eq_true rfl) hw_7 (fun _ h9 => h9) rfl dX11_readRouter_155 ?_
              refine lv_iload_n hx hb dX11_readRouter_158 rfl (lv_at hl 1 rfl) ?_
              refine va_iald hx hb hK hP 5 1 rfl rfl (iv_in b15 (by decide) (by decide)) dX11_readRouter_159 ?_
              refine W.eq (g2 := F0 m 160 ls [.int 1, .int 0]) (by rw [upd_eq]) ?_
              refine lv_iadd hx hb dX11_readRouter_160 ?_
              refine lv_topi (fun z302 e303 => ?_)
              obtain rfl : z302 = (1 : Int32) := e303.trans (by decide)
              refine lv_if_le (tgt := 168) hx hb dX11_readRouter_161 rfl (fun c9 => absurd c9 (by decide)) (fun _ => ?_)
              refine lv_aload_n hx hb dX11_readRouter_164 rfl (lv_at hl 2 rfl) ?_
              obtain ⟨hPc, hDc, hFc, hJn⟩ := cl_a (wc := [(m0, .inr (11, oX11 ra y269)), (ra 13, .inl (kI, 700, .inl q_tape))]) (wr := [(ra 2, .inl (kI, 8, .inl q_told)), (ra 3, .inl (kI, 24, .inl (upd q_kind (12 + (q_told 4)).toNatClampNeg r16))), (ra 4, .inl (kI, 24, .inl (upd q_salt (12 + (q_told 4)).toNatClampNeg r257))), (ra 5, .inl (kI, 24, .inl (upd q_pace (12 + (q_told 4)).toNatClampNeg r267))), (ra 6, .inl (kI, 24, .inl (upd q_mute (12 + (q_told 4)).toNatClampNeg 0))), (ra 7, .inl (kI, 24, .inl (upd q_late (12 + (q_told 4)).toNatClampNeg 1))), (ra 1, .inl (kS, 4, .inr (.inr (.inr (.inr q_kinds)))))]) hP hD hS hA [7, 8] [0, 1, 2, 3, 4, 5, 6] rfl rfl (by decide +kernel)
              refine va_callv (va_runV (As := []) (rest := []) ⟨hx, hb, hml, hown, hts⟩ (s11_stepOn l dC dI kB kI kJ kZ kC kS H.size m0 ra y269 q_tape tT nN (nextT tT nN (rtr4 tT nN sS)) (hq270) (hq_tape) (hrr276.2) (stp_of hrr276) (hTQ)) (cwV 0 hts gX11_readRouter_X11_stepOn rfl rfl rfl (by decide +kernel) ⟨Nat.le_of_ble_eq_true rfl, Nat.le_of_ble_eq_true rfl⟩) ⟨fun a U g mk q => by obtain ⟨q0, q1, qP, qE, qD⟩ := q; exact ⟨q0, q1, qP, kE_call qE, qD⟩, va_recv hK hP (ci := 11) (q0 := 7) rfl rfl, fun U hU hW => ⟨rfl, by rw [hU], by rw [hU]; exact hPc, kE_warm hW hE, hDc.weaken (fun _ _ _ _ => trivial)⟩⟩ rfl rfl hl.1 rfl (lv_room (Nat.le_of_ble_eq_true rfl)) dX11_readRouter_165 ⟨Nat.le_of_ble_eq_true rfl, Nat.le_of_ble_eq_true rfl⟩) hS (fun q _ h => hFc q h) hFc (fun u t H locs ht hvm w305 hB hz1 hk1 hS => ?_)
              obtain ⟨y306, hq307, hq308, hq309, hq310, hq311, hq312, hq313, hP1, hD1⟩ := hB
              try dsimp only at w305
              obtain ⟨hPa, hDa⟩ := hJn (w1 := [(m0, .inr (11, oX11 ra y306)), (ra 13, .inl (kI, 700, .inl q_tape))]) hk1 ht hP1 hD1
              clear hP hD hPc hDc hFc hJn hP1 hD1 hk1
              have hP : va_P (dC, dI) vwCl [(ra 2, .inl (kI, 8, .inl q_told)), (ra 3, .inl (kI, 24, .inl (upd q_kind (12 + (q_told 4)).toNatClampNeg r16))), (ra 4, .inl (kI, 24, .inl (upd q_salt (12 + (q_told 4)).toNatClampNeg r257))), (ra 5, .inl (kI, 24, .inl (upd q_pace (12 + (q_told 4)).toNatClampNeg r267))), (ra 6, .inl (kI, 24, .inl (upd q_mute (12 + (q_told 4)).toNatClampNeg 0))), (ra 7, .inl (kI, 24, .inl (upd q_late (12 + (q_told 4)).toNatClampNeg 1))), (ra 1, .inl (kS, 4, .inr (.inr (.inr (.inr q_kinds))))), (m0, .inr (11, oX11 ra y306)), (ra 13, .inl (kI, 700, .inl q_tape))] H := hPa
              have hD : va_D A [(ra 2, .inl (kI, 8, .inl q_told)), (ra 3, .inl (kI, 24, .inl (upd q_kind (12 + (q_told 4)).toNatClampNeg r16))), (ra 4, .inl (kI, 24, .inl (upd q_salt (12 + (q_told 4)).toNatClampNeg r257))), (ra 5, .inl (kI, 24, .inl (upd q_pace (12 + (q_told 4)).toNatClampNeg r267))), (ra 6, .inl (kI, 24, .inl (upd q_mute (12 + (q_told 4)).toNatClampNeg 0))), (ra 7, .inl (kI, 24, .inl (upd q_late (12 + (q_told 4)).toNatClampNeg 1))), (ra 1, .inl (kS, 4, .inr (.inr (.inr (.inr q_kinds))))), (m0, .inr (11, oX11 ra y306)), (ra 13, .inl (kI, 700, .inl q_tape))] := hDa
              clear hPa hDa
              refine W.widen (k := 0) (n := 0) (Nat.le_of_ble_eq_true rfl) (Nat.le_of_ble_eq_true rfl) ?_
              have hrr314 : RRd tT nN y306 (manT tT nN (rtr4 tT nN sS)) := (mq_s hrr276 c297 (Or.inr c285)) ▸ hq311
              refine lv_aload_n hx hb dX11_readRouter_168 rfl (lv_at hl 2 rfl) ?_
              refine va_get (D := (dC, dI)) (ci := 11) (v := .ref (ra 2)) (C := RX11) (T := TX11) (N := 61) hx hb hts hin11 hown hK hP 7 rfl rfl 3 (Nat.le_of_ble_eq_true rfl) hw_0 (fun _ h9 => h9) rfl dX11_readRouter_169 ?_
              refine lv_iconst (v := 4) hx hb dX11_readRouter_172 ic_4 ?_
              refine lv_dup2_11 hx hb dX11_readRouter_173 rfl rfl ?_
              refine va_iald hx hb hK hP 0 1 rfl rfl (vp_in_nI (n := 4) (by decide) (by decide)) dX11_readRouter_174 ?_
              refine W.eq (g2 := F0 m 175 ls [.int (q_told 4), .int 4, .ref (ra 2)]) rfl ?_
              refine lv_iconst (v := 1) hx hb dX11_readRouter_175 ic_1 ?_
              refine lv_iadd hx hb dX11_readRouter_176 ?_
              have b315 : iv 1 12 ((q_told 4) + 1) := iv_add b2 ivk_1 (by decide) (by decide) (by decide) (by decide)
              refine va_iast hx hb hK hP hD hS 0 1 rfl rfl (vp_in_nI (n := 4) (by decide) (by decide)) dX11_readRouter_177 (fun H locs hPa hDa hS => ?_)
              clear hP hD
              have hP : va_P (dC, dI) vwCl [(ra 2, .inl (kI, 8, .inl (upd q_told 4 ((q_told 4) + 1)))), (ra 3, .inl (kI, 24, .inl (upd q_kind (12 + (q_told 4)).toNatClampNeg r16))), (ra 4, .inl (kI, 24, .inl (upd q_salt (12 + (q_told 4)).toNatClampNeg r257))), (ra 5, .inl (kI, 24, .inl (upd q_pace (12 + (q_told 4)).toNatClampNeg r267))), (ra 6, .inl (kI, 24, .inl (upd q_mute (12 + (q_told 4)).toNatClampNeg 0))), (ra 7, .inl (kI, 24, .inl (upd q_late (12 + (q_told 4)).toNatClampNeg 1))), (ra 1, .inl (kS, 4, .inr (.inr (.inr (.inr q_kinds))))), (m0, .inr (11, oX11 ra y306)), (ra 13, .inl (kI, 700, .inl q_tape))] H := hPa
              have hD : va_D A [(ra 2, .inl (kI, 8, .inl (upd q_told 4 ((q_told 4) + 1)))), (ra 3, .inl (kI, 24, .inl (upd q_kind (12 + (q_told 4)).toNatClampNeg r16))), (ra 4, .inl (kI, 24, .inl (upd q_salt (12 + (q_told 4)).toNatClampNeg r257))), (ra 5, .inl (kI, 24, .inl (upd q_pace (12 + (q_told 4)).toNatClampNeg r267))), (ra 6, .inl (kI, 24, .inl (upd q_mute (12 + (q_told 4)).toNatClampNeg 0))), (ra 7, .inl (kI, 24, .inl (upd q_late (12 + (q_told 4)).toNatClampNeg 1))), (ra 1, .inl (kS, 4, .inr (.inr (.inr (.inr q_kinds))))), (m0, .inr (11, oX11 ra y306)), (ra 13, .inl (kI, 700, .inl q_tape))] := hDa
              clear hPa hDa
              have hPD9 := cl_s (wc := [(m0, .inr (11, oX11 ra y306)), (ra 2, .inl (kI, 8, .inl (upd q_told 4 ((q_told 4) + 1)))), (ra 3, .inl (kI, 24, .inl (upd q_kind (12 + (q_told 4)).toNatClampNeg r16))), (ra 4, .inl (kI, 24, .inl (upd q_salt (12 + (q_told 4)).toNatClampNeg r257))), (ra 5, .inl (kI, 24, .inl (upd q_pace (12 + (q_told 4)).toNatClampNeg r267))), (ra 6, .inl (kI, 24, .inl (upd q_mute (12 + (q_told 4)).toNatClampNeg 0))), (ra 7, .inl (kI, 24, .inl (upd q_late (12 + (q_told 4)).toNatClampNeg 1))), (ra 13, .inl (kI, 700, .inl q_tape)), (ra 1, .inl (kS, 4, .inr (.inr (.inr (.inr q_kinds)))))]) hP hD [7, 0, 1, 2, 3, 4, 5, 8, 6] rfl (by decide +kernel)
              have hP9 := hPD9.1
              have hD9 := hPD9.2
              exact W.vret hx hb hr (fun t ht hW => ⟨⟨(), rfl, trivial, y306, upd q_told 4 ((q_told 4) + 1), upd q_kind (12 + (q_told 4)).toNatClampNeg r16, upd q_salt (12 + (q_told 4)).toNatClampNeg r257, upd q_pace (12 + (q_told 4)).toNatClampNeg r267, upd q_mute (12 + (q_told 4)).toNatClampNeg 0, upd q_late (12 + (q_told 4)).toNatClampNeg 1, hq307, (fI_u hq_told (k := 4) ((iv_w b315 (by decide) (by decide)))), (fI_u hq_salt (k := (12 + (q_told 4)).toNatClampNeg) (w258.1)), (show (x0 2).toInt ≤ (y306 2).toInt from by omega), (show y306 3 = x0 3 from hq309.trans (hq272.trans (hq262.trans (hq251.trans (hq10))))), (show ∀ j : Nat, (j : Int) < (q_told 1).toInt → (q_from j).toInt < (q_to j).toInt from hLT), (show ∀ j : Nat, (j : Int) < (q_told 5).toInt → (q_from (20 + j)).toInt < (q_to (20 + j)).toInt from hLD), (show RRd tT nN y306 (rtrS tT nN sS (q_told 4)) from it_f (Q := RRd tT nN y306) c1 (hrr314)), fun _ => absurd (ok_next (ok_num (ok_next (ok_num (ok_next (rr_ok hrr276 c297)))))) (fun w => ok_fail ((kq_n hwk c18).symm ▸ w)), low_t (by decide), (show y306 1 = x0 1 from hq312.trans (hq274.trans (hq264.trans (hq253.trans (hq13))))), (show y306 10 = x0 10 from hq313.trans (hq275.trans (hq265.trans (hq254.trans (hq14))))), by rw [ht]; exact hP9, hD9⟩, hS.F ht⟩) hS.2.2 dX11_readRouter_178
        · have b316 : iv 1 1 (wS tT 8 (rtr4 tT nN sS)) := iv_neLo c280 b279 ivk_0 (by decide) (by decide)
          refine lv_iconst (v := 1) hx hb dX11_readRouter_115 ic_1 ?_
          refine lv_goto (tgt := 120) hx hb dX11_readRouter_116 rfl ?_
          refine va_iast hx hb hK hP hD hS 4 1 rfl rfl (iv_in b15 (by decide) (by decide)) dX11_readRouter_120 (fun H locs hPa hDa hS => ?_)
          clear hP hD
          have hP : va_P (dC, dI) vwCl [(ra 2, .inl (kI, 8, .inl q_told)), (ra 3, .inl (kI, 24, .inl (upd q_kind (12 + (q_told 4)).toNatClampNeg r16))), (ra 4, .inl (kI, 24, .inl (upd q_salt (12 + (q_told 4)).toNatClampNeg r257))), (ra 5, .inl (kI, 24, .inl (upd q_pace (12 + (q_told 4)).toNatClampNeg r267))), (ra 6, .inl (kI, 24, .inl (upd q_mute (12 + (q_told 4)).toNatClampNeg 1))), (ra 7, .inl (kI, 24, .inl q_late)), (ra 1, .inl (kS, 4, .inr (.inr (.inr (.inr q_kinds))))), (m0, .inr (11, oX11 ra y269)), (ra 13, .inl (kI, 700, .inl q_tape))] H := hPa
          have hD : va_D A [(ra 2, .inl (kI, 8, .inl q_told)), (ra 3, .inl (kI, 24, .inl (upd q_kind (12 + (q_told 4)).toNatClampNeg r16))), (ra 4, .inl (kI, 24, .inl (upd q_salt (12 + (q_told 4)).toNatClampNeg r257))), (ra 5, .inl (kI, 24, .inl (upd q_pace (12 + (q_told 4)).toNatClampNeg r267))), (ra 6, .inl (kI, 24, .inl (upd q_mute (12 + (q_told 4)).toNatClampNeg 1))), (ra 7, .inl (kI, 24, .inl q_late)), (ra 1, .inl (kS, 4, .inr (.inr (.inr (.inr q_kinds))))), (m0, .inr (11, oX11 ra y269)), (ra 13, .inl (kI, 700, .inl q_tape))] := hDa
          clear hPa hDa
          refine lv_aload_n hx hb dX11_readRouter_121 rfl (lv_at hl 2 rfl) ?_
          refine va_get (D := (dC, dI)) (ci := 11) (v := .ref (ra 7)) (C := RX11) (T := TX11) (N := 61) hx hb hts hin11 hown hK hP 7 rfl rfl 8 (Nat.le_of_ble_eq_true rfl) hw_7 (fun _ h9 => h9) rfl dX11_readRouter_122 ?_
          refine lv_iload_n hx hb dX11_readRouter_125 rfl (lv_at hl 1 rfl) ?_
          refine lv_aload_n hx hb dX11_readRouter_126 rfl (lv_at hl 2 rfl) ?_
          refine va_ldcS hx hb hown hKL.2.2.2.2.2.2.2.2.2.2.2.2.2.2.2.2.2.2.2.2.2.2 dX11_readRouter_127 ?_
          obtain ⟨hPc, hDc, hFc, hJn⟩ := cl_a (wc := [(m0, .inr (11, oX11 ra y269)), (ra 13, .inl (kI, 700, .inl q_tape))]) (wr := [(ra 2, .inl (kI, 8, .inl q_told)), (ra 3, .inl (kI, 24, .inl (upd q_kind (12 + (q_told 4)).toNatClampNeg r16))), (ra 4, .inl (kI, 24, .inl (upd q_salt (12 + (q_told 4)).toNatClampNeg r257))), (ra 5, .inl (kI, 24, .inl (upd q_pace (12 + (q_told 4)).toNatClampNeg r267))), (ra 6, .inl (kI, 24, .inl (upd q_mute (12 + (q_told 4)).toNatClampNeg 1))), (ra 7, .inl (kI, 24, .inl q_late)), (ra 1, .inl (kS, 4, .inr (.inr (.inr (.inr q_kinds)))))]) hP hD hS hA [7, 8] [0, 1, 2, 3, 4, 5, 6] rfl rfl (by decide +kernel)
          refine va_calli (va_runV (As := [.ref (adK 9)]) (rest := [.int (12 + (q_told 4)), .ref (ra 7)]) ⟨hx, hb, hml, hown, hts⟩ (s11_is l dC dI kB kI kJ kZ kC kS H.size adK adV m0 ra y269 q_tape 9 tT nN (rtr4 tT nN sS) (hq270) (hq_tape) ((by decide)) (hrr276) (hTQ)) (cwV 1 hts gX11_readRouter_X11_is rfl rfl rfl (by decide +kernel) ⟨Nat.le_of_ble_eq_true rfl, Nat.le_of_ble_eq_true rfl⟩) ⟨fun a U g mk q => by obtain ⟨q0, q1, qP, qE, qD, qL⟩ := q; exact ⟨q0, q1, qP, kE_call qE, qD, kL_call qL⟩, va_recv hK hP (ci := 11) (q0 := 7) rfl rfl, fun U hU hW => ⟨rfl, by rw [hU], by rw [hU]; exact hPc, kE_warm hW hE, hDc.weaken (fun _ _ _ _ => trivial), kL_at hKL hS hFc hW hU⟩⟩ rfl rfl hl.1 rfl (lv_room (Nat.le_of_ble_eq_true rfl)) dX11_readRouter_129 ⟨Nat.le_of_ble_eq_true rfl, Nat.le_of_ble_eq_true rfl⟩) hS (fun q _ h => hFc q h) hFc (fun r317 u t H locs ht hvm w318 hB hz1 hk1 hS => ?_)
          obtain ⟨hP1, hD1⟩ := hB
          try dsimp only at w318
          obtain ⟨hPa, hDa⟩ := hJn (w1 := [(m0, .inr (11, oX11 ra y269)), (ra 13, .inl (kI, 700, .inl q_tape))]) hk1 ht hP1 hD1
          clear hP hD hPc hDc hFc hJn hP1 hD1 hk1
          have hP : va_P (dC, dI) vwCl [(ra 2, .inl (kI, 8, .inl q_told)), (ra 3, .inl (kI, 24, .inl (upd q_kind (12 + (q_told 4)).toNatClampNeg r16))), (ra 4, .inl (kI, 24, .inl (upd q_salt (12 + (q_told 4)).toNatClampNeg r257))), (ra 5, .inl (kI, 24, .inl (upd q_pace (12 + (q_told 4)).toNatClampNeg r267))), (ra 6, .inl (kI, 24, .inl (upd q_mute (12 + (q_told 4)).toNatClampNeg 1))), (ra 7, .inl (kI, 24, .inl q_late)), (ra 1, .inl (kS, 4, .inr (.inr (.inr (.inr q_kinds))))), (m0, .inr (11, oX11 ra y269)), (ra 13, .inl (kI, 700, .inl q_tape))] H := hPa
          have hD : va_D A [(ra 2, .inl (kI, 8, .inl q_told)), (ra 3, .inl (kI, 24, .inl (upd q_kind (12 + (q_told 4)).toNatClampNeg r16))), (ra 4, .inl (kI, 24, .inl (upd q_salt (12 + (q_told 4)).toNatClampNeg r257))), (ra 5, .inl (kI, 24, .inl (upd q_pace (12 + (q_told 4)).toNatClampNeg r267))), (ra 6, .inl (kI, 24, .inl (upd q_mute (12 + (q_told 4)).toNatClampNeg 1))), (ra 7, .inl (kI, 24, .inl q_late)), (ra 1, .inl (kS, 4, .inr (.inr (.inr (.inr q_kinds))))), (m0, .inr (11, oX11 ra y269)), (ra 13, .inl (kI, 700, .inl q_tape))] := hDa
          clear hPa hDa
          refine W.widen (k := 0) (n := 0) (Nat.le_of_ble_eq_true rfl) (Nat.le_of_ble_eq_true rfl) ?_
          obtain ⟨w318, b319⟩ := w318
          subst w318
          refine lv_if_eq (tgt := 139) hx hb dX11_readRouter_132 rfl (fun c320 => ?_) (fun c320 => ?_)
          · have b321 : iv 0 0 (wS tT 9 (rtr4 tT nN sS)) := iv_eqL c320 ivk_0
            refine lv_iconst (v := 0) hx hb dX11_readRouter_139 ic_0 ?_
            refine va_iast hx hb hK hP hD hS 5 1 rfl rfl (iv_in b15 (by decide) (by decide)) dX11_readRouter_140 (fun H locs hPa hDa hS => ?_)
            clear hP hD
            have hP : va_P (dC, dI) vwCl [(ra 2, .inl (kI, 8, .inl q_told)), (ra 3, .inl (kI, 24, .inl (upd q_kind (12 + (q_told 4)).toNatClampNeg r16))), (ra 4, .inl (kI, 24, .inl (upd q_salt (12 + (q_told 4)).toNatClampNeg r257))), (ra 5, .inl (kI, 24, .inl (upd q_pace (12 + (q_told 4)).toNatClampNeg r267))), (ra 6, .inl (kI, 24, .inl (upd q_mute (12 + (q_told 4)).toNatClampNeg 1))), (ra 7, .inl (kI, 24, .inl (upd q_late (12 + (q_told 4)).toNatClampNeg 0))), (ra 1, .inl (kS, 4, .inr (.inr (.inr (.inr q_kinds))))), (m0, .inr (11, oX11 ra y269)), (ra 13, .inl (kI, 700, .inl q_tape))] H := hPa
            have hD : va_D A [(ra 2, .inl (kI, 8, .inl q_told)), (ra 3, .inl (kI, 24, .inl (upd q_kind (12 + (q_told 4)).toNatClampNeg r16))), (ra 4, .inl (kI, 24, .inl (upd q_salt (12 + (q_told 4)).toNatClampNeg r257))), (ra 5, .inl (kI, 24, .inl (upd q_pace (12 + (q_told 4)).toNatClampNeg r267))), (ra 6, .inl (kI, 24, .inl (upd q_mute (12 + (q_told 4)).toNatClampNeg 1))), (ra 7, .inl (kI, 24, .inl (upd q_late (12 + (q_told 4)).toNatClampNeg 0))), (ra 1, .inl (kS, 4, .inr (.inr (.inr (.inr q_kinds))))), (m0, .inr (11, oX11 ra y269)), (ra 13, .inl (kI, 700, .inl q_tape))] := hDa
            clear hPa hDa
            refine lv_aload_n hx hb dX11_readRouter_141 rfl (lv_at hl 2 rfl) ?_
            refine va_get (D := (dC, dI)) (ci := 11) (v := .int (y269 8)) (C := RX11) (T := TX11) (N := 61) hx hb hts hin11 hown hK hP 7 rfl rfl 22 (Nat.le_of_ble_eq_true rfl) hw_1 (fun _ h9 => h9) rfl dX11_readRouter_142 ?_
            refine lv_if_ne (tgt := 168) hx hb dX11_readRouter_145 rfl (fun c322 => ?_) (fun c322 => ?_)
            · have b323 : iv 1 5 (y269 8) := iv_neLo c322 (hq270 8 : iv 0 5 (y269 8)) ivk_0 (by decide) (by decide)
              have hrr324 : RRd tT nN y269 (manT tT nN (rtr4 tT nN sS)) := (mq_b hrr276 c322) ▸ hrr276
              refine lv_aload_n hx hb dX11_readRouter_168 rfl (lv_at hl 2 rfl) ?_
              refine va_get (D := (dC, dI)) (ci := 11) (v := .ref (ra 2)) (C := RX11) (T := TX11) (N := 61) hx hb hts hin11 hown hK hP 7 rfl rfl 3 (Nat.le_of_ble_eq_true rfl) hw_0 (fun _ h9 => h9) rfl dX11_readRouter_169 ?_
              refine lv_iconst (v := 4) hx hb dX11_readRouter_172 ic_4 ?_
              refine lv_dup2_11 hx hb dX11_readRouter_173 rfl rfl ?_
              refine va_iald hx hb hK hP 0 1 rfl rfl (vp_in_nI (n := 4) (by decide) (by decide)) dX11_readRouter_174 ?_
              refine W.eq (g2 := F0 m 175 ls [.int (q_told 4), .int 4, .ref (ra 2)]) rfl ?_
              refine lv_iconst (v := 1) hx hb dX11_readRouter_175 ic_1 ?_
              refine lv_iadd hx hb dX11_readRouter_176 ?_
              have b325 : iv 1 12 ((q_told 4) + 1) := iv_add b2 ivk_1 (by decide) (by decide) (by decide) (by decide)
              refine va_iast hx hb hK hP hD hS 0 1 rfl rfl (vp_in_nI (n := 4) (by decide) (by decide)) dX11_readRouter_177 (fun H locs hPa hDa hS => ?_)
              clear hP hD
              have hP : va_P (dC, dI) vwCl [(ra 2, .inl (kI, 8, .inl (upd q_told 4 ((q_told 4) + 1)))), (ra 3, .inl (kI, 24, .inl (upd q_kind (12 + (q_told 4)).toNatClampNeg r16))), (ra 4, .inl (kI, 24, .inl (upd q_salt (12 + (q_told 4)).toNatClampNeg r257))), (ra 5, .inl (kI, 24, .inl (upd q_pace (12 + (q_told 4)).toNatClampNeg r267))), (ra 6, .inl (kI, 24, .inl (upd q_mute (12 + (q_told 4)).toNatClampNeg 1))), (ra 7, .inl (kI, 24, .inl (upd q_late (12 + (q_told 4)).toNatClampNeg 0))), (ra 1, .inl (kS, 4, .inr (.inr (.inr (.inr q_kinds))))), (m0, .inr (11, oX11 ra y269)), (ra 13, .inl (kI, 700, .inl q_tape))] H := hPa
              have hD : va_D A [(ra 2, .inl (kI, 8, .inl (upd q_told 4 ((q_told 4) + 1)))), (ra 3, .inl (kI, 24, .inl (upd q_kind (12 + (q_told 4)).toNatClampNeg r16))), (ra 4, .inl (kI, 24, .inl (upd q_salt (12 + (q_told 4)).toNatClampNeg r257))), (ra 5, .inl (kI, 24, .inl (upd q_pace (12 + (q_told 4)).toNatClampNeg r267))), (ra 6, .inl (kI, 24, .inl (upd q_mute (12 + (q_told 4)).toNatClampNeg 1))), (ra 7, .inl (kI, 24, .inl (upd q_late (12 + (q_told 4)).toNatClampNeg 0))), (ra 1, .inl (kS, 4, .inr (.inr (.inr (.inr q_kinds))))), (m0, .inr (11, oX11 ra y269)), (ra 13, .inl (kI, 700, .inl q_tape))] := hDa
              clear hPa hDa
              have hPD9 := cl_s (wc := [(m0, .inr (11, oX11 ra y269)), (ra 2, .inl (kI, 8, .inl (upd q_told 4 ((q_told 4) + 1)))), (ra 3, .inl (kI, 24, .inl (upd q_kind (12 + (q_told 4)).toNatClampNeg r16))), (ra 4, .inl (kI, 24, .inl (upd q_salt (12 + (q_told 4)).toNatClampNeg r257))), (ra 5, .inl (kI, 24, .inl (upd q_pace (12 + (q_told 4)).toNatClampNeg r267))), (ra 6, .inl (kI, 24, .inl (upd q_mute (12 + (q_told 4)).toNatClampNeg 1))), (ra 7, .inl (kI, 24, .inl (upd q_late (12 + (q_told 4)).toNatClampNeg 0))), (ra 13, .inl (kI, 700, .inl q_tape)), (ra 1, .inl (kS, 4, .inr (.inr (.inr (.inr q_kinds)))))]) hP hD [7, 0, 1, 2, 3, 4, 5, 8, 6] rfl (by decide +kernel)
              have hP9 := hPD9.1
              have hD9 := hPD9.2
              exact W.vret hx hb hr (fun t ht hW => ⟨⟨(), rfl, trivial, y269, upd q_told 4 ((q_told 4) + 1), upd q_kind (12 + (q_told 4)).toNatClampNeg r16, upd q_salt (12 + (q_told 4)).toNatClampNeg r257, upd q_pace (12 + (q_told 4)).toNatClampNeg r267, upd q_mute (12 + (q_told 4)).toNatClampNeg 1, upd q_late (12 + (q_told 4)).toNatClampNeg 0, hq270, (fI_u hq_told (k := 4) ((iv_w b325 (by decide) (by decide)))), (fI_u hq_salt (k := (12 + (q_told 4)).toNatClampNeg) (w258.1)), (show (x0 2).toInt ≤ (y269 2).toInt from by omega), (show y269 3 = x0 3 from hq272.trans (hq262.trans (hq251.trans (hq10)))), (show ∀ j : Nat, (j : Int) < (q_told 1).toInt → (q_from j).toInt < (q_to j).toInt from hLT), (show ∀ j : Nat, (j : Int) < (q_told 5).toInt → (q_from (20 + j)).toInt < (q_to (20 + j)).toInt from hLD), (show RRd tT nN y269 (rtrS tT nN sS (q_told 4)) from it_f (Q := RRd tT nN y269) c1 (hrr324)), fun w => absurd w c322, low_t (by decide), (show y269 1 = x0 1 from hq274.trans (hq264.trans (hq253.trans (hq13)))), (show y269 10 = x0 10 from hq275.trans (hq265.trans (hq254.trans (hq14)))), by rw [ht]; exact hP9, hD9⟩, hS.F ht⟩) hS.2.2 dX11_readRouter_178
            · have b326 : iv 0 0 (y269 8) := iv_eqL c322 ivk_0
              refine lv_aload_n hx hb dX11_readRouter_148 rfl (lv_at hl 2 rfl) ?_
              refine va_get (D := (dC, dI)) (ci := 11) (v := .ref (ra 6)) (C := RX11) (T := TX11) (N := 61) hx hb hts hin11 hown hK hP 7 rfl rfl 7 (Nat.le_of_ble_eq_true rfl) hw_6 (fun _ h9 => h9) rfl dX11_readRouter_149 ?_
              refine lv_iload_n hx hb dX11_readRouter_152 rfl (lv_at hl 1 rfl) ?_
              refine va_iald hx hb hK hP 4 1 rfl rfl (iv_in b15 (by decide) (by decide)) dX11_readRouter_153 ?_
              refine W.eq (g2 := F0 m 154 ls [.int 1]) (by rw [upd_eq]) ?_
              refine lv_aload_n hx hb dX11_readRouter_154 rfl (lv_at hl 2 rfl) ?_
              refine va_get (D := (dC, dI)) (ci := 11) (v := .ref (ra 7)) (C := RX11) (T := TX11) (N := 61) hx hb hts hin11 hown hK hP 7 rfl rfl 8 (Nat.le_of_ble_eq_true rfl) hw_7 (fun _ h9 => h9) rfl dX11_readRouter_155 ?_
              refine lv_iload_n hx hb dX11_readRouter_158 rfl (lv_at hl 1 rfl) ?_
              refine va_iald hx hb hK hP 5 1 rfl rfl (iv_in b15 (by decide) (by decide)) dX11_readRouter_159 ?_
              refine W.eq (g2 := F0 m 160 ls [.int 0, .int 1]) (by rw [upd_eq]) ?_
              refine lv_iadd hx hb dX11_readRouter_160 ?_
              refine lv_topi (fun z327 e328 => ?_)
              obtain rfl : z327 = (1 : Int32) := e328.trans (by decide)
              refine lv_if_le (tgt := 168) hx hb dX11_readRouter_161 rfl (fun c9 => absurd c9 (by decide)) (fun _ => ?_)
              refine lv_aload_n hx hb dX11_readRouter_164 rfl (lv_at hl 2 rfl) ?_
              obtain ⟨hPc, hDc, hFc, hJn⟩ := cl_a (wc := [(m0, .inr (11, oX11 ra y269)), (ra 13, .inl (kI, 700, .inl q_tape))]) (wr := [(ra 2, .inl (kI, 8, .inl q_told)), (ra 3, .inl (kI, 24, .inl (upd q_kind (12 + (q_told 4)).toNatClampNeg r16))), (ra 4, .inl (kI, 24, .inl (upd q_salt (12 + (q_told 4)).toNatClampNeg r257))), (ra 5, .inl (kI, 24, .inl (upd q_pace (12 + (q_told 4)).toNatClampNeg r267))), (ra 6, .inl (kI, 24, .inl (upd q_mute (12 + (q_told 4)).toNatClampNeg 1))), (ra 7, .inl (kI, 24, .inl (upd q_late (12 + (q_told 4)).toNatClampNeg 0))), (ra 1, .inl (kS, 4, .inr (.inr (.inr (.inr q_kinds)))))]) hP hD hS hA [7, 8] [0, 1, 2, 3, 4, 5, 6] rfl rfl (by decide +kernel)
              refine va_callv (va_runV (As := []) (rest := []) ⟨hx, hb, hml, hown, hts⟩ (s11_stepOn l dC dI kB kI kJ kZ kC kS H.size m0 ra y269 q_tape tT nN (nextT tT nN (rtr4 tT nN sS)) (hq270) (hq_tape) (hrr276.2) (stp_of hrr276) (hTQ)) (cwV 0 hts gX11_readRouter_X11_stepOn rfl rfl rfl (by decide +kernel) ⟨Nat.le_of_ble_eq_true rfl, Nat.le_of_ble_eq_true rfl⟩) ⟨fun a U g mk q => by obtain ⟨q0, q1, qP, qE, qD⟩ := q; exact ⟨q0, q1, qP, kE_call qE, qD⟩, va_recv hK hP (ci := 11) (q0 := 7) rfl rfl, fun U hU hW => ⟨rfl, by rw [hU], by rw [hU]; exact hPc, kE_warm hW hE, hDc.weaken (fun _ _ _ _ => trivial)⟩⟩ rfl rfl hl.1 rfl (lv_room (Nat.le_of_ble_eq_true rfl)) dX11_readRouter_165 ⟨Nat.le_of_ble_eq_true rfl, Nat.le_of_ble_eq_true rfl⟩) hS (fun q _ h => hFc q h) hFc (fun u t H locs ht hvm w330 hB hz1 hk1 hS => ?_)
              obtain ⟨y331, hq332, hq333, hq334, hq335, hq336, hq337, hq338, hP1, hD1⟩ := hB
              try dsimp only at w330
              obtain ⟨hPa, hDa⟩ := hJn (w1 := [(m0, .inr (11, oX11 ra y331)), (ra 13, .inl (kI, 700, .inl q_tape))]) hk1 ht hP1 hD1
              clear hP hD hPc hDc hFc hJn hP1 hD1 hk1
              have hP : va_P (dC, dI) vwCl [(ra 2, .inl (kI, 8, .inl q_told)), (ra 3, .inl (kI, 24, .inl (upd q_kind (12 + (q_told 4)).toNatClampNeg r16))), (ra 4, .inl (kI, 24, .inl (upd q_salt (12 + (q_told 4)).toNatClampNeg r257))), (ra 5, .inl (kI, 24, .inl (upd q_pace (12 + (q_told 4)).toNatClampNeg r267))), (ra 6, .inl (kI, 24, .inl (upd q_mute (12 + (q_told 4)).toNatClampNeg 1))), (ra 7, .inl (kI, 24, .inl (upd q_late (12 + (q_told 4)).toNatClampNeg 0))), (ra 1, .inl (kS, 4, .inr (.inr (.inr (.inr q_kinds))))), (m0, .inr (11, oX11 ra y331)), (ra 13, .inl (kI, 700, .inl q_tape))] H := hPa
              have hD : va_D A [(ra 2, .inl (kI, 8, .inl q_told)), (ra 3, .inl (kI, 24, .inl (upd q_kind (12 + (q_told 4)).toNatClampNeg r16))), (ra 4, .inl (kI, 24, .inl (upd q_salt (12 + (q_told 4)).toNatClampNeg r257))), (ra 5, .inl (kI, 24, .inl (upd q_pace (12 + (q_told 4)).toNatClampNeg r267))), (ra 6, .inl (kI, 24, .inl (upd q_mute (12 + (q_told 4)).toNatClampNeg 1))), (ra 7, .inl (kI, 24, .inl (upd q_late (12 + (q_told 4)).toNatClampNeg 0))), (ra 1, .inl (kS, 4, .inr (.inr (.inr (.inr q_kinds))))), (m0, .inr (11, oX11 ra y331)), (ra 13, .inl (kI, 700, .inl q_tape))] := hDa
              clear hPa hDa
              refine W.widen (k := 0) (n := 0) (Nat.le_of_ble_eq_true rfl) (Nat.le_of_ble_eq_true rfl) ?_
              have hrr339 : RRd tT nN y331 (manT tT nN (rtr4 tT nN sS)) := (mq_s hrr276 c322 (Or.inl c280)) ▸ hq336
              refine lv_aload_n hx hb dX11_readRouter_168 rfl (lv_at hl 2 rfl) ?_
              refine va_get (D := (dC, dI)) (ci := 11) (v := .ref (ra 2)) (C := RX11) (T := TX11) (N := 61) hx hb hts hin11 hown hK hP 7 rfl rfl 3 (Nat.le_of_ble_eq_true rfl) hw_0 (fun _ h9 => h9) rfl dX11_readRouter_169 ?_
              refine lv_iconst (v := 4) hx hb dX11_readRouter_172 ic_4 ?_
              refine lv_dup2_11 hx hb dX11_readRouter_173 rfl rfl ?_
              refine va_iald hx hb hK hP 0 1 rfl rfl (vp_in_nI (n := 4) (by decide) (by decide)) dX11_readRouter_174 ?_
              refine W.eq (g2 := F0 m 175 ls [.int (q_told 4), .int 4, .ref (ra 2)]) rfl ?_
              refine lv_iconst (v := 1) hx hb dX11_readRouter_175 ic_1 ?_
              refine lv_iadd hx hb dX11_readRouter_176 ?_
              have b340 : iv 1 12 ((q_told 4) + 1) := iv_add b2 ivk_1 (by decide) (by decide) (by decide) (by decide)
              refine va_iast hx hb hK hP hD hS 0 1 rfl rfl (vp_in_nI (n := 4) (by decide) (by decide)) dX11_readRouter_177 (fun H locs hPa hDa hS => ?_)
              clear hP hD
              have hP : va_P (dC, dI) vwCl [(ra 2, .inl (kI, 8, .inl (upd q_told 4 ((q_told 4) + 1)))), (ra 3, .inl (kI, 24, .inl (upd q_kind (12 + (q_told 4)).toNatClampNeg r16))), (ra 4, .inl (kI, 24, .inl (upd q_salt (12 + (q_told 4)).toNatClampNeg r257))), (ra 5, .inl (kI, 24, .inl (upd q_pace (12 + (q_told 4)).toNatClampNeg r267))), (ra 6, .inl (kI, 24, .inl (upd q_mute (12 + (q_told 4)).toNatClampNeg 1))), (ra 7, .inl (kI, 24, .inl (upd q_late (12 + (q_told 4)).toNatClampNeg 0))), (ra 1, .inl (kS, 4, .inr (.inr (.inr (.inr q_kinds))))), (m0, .inr (11, oX11 ra y331)), (ra 13, .inl (kI, 700, .inl q_tape))] H := hPa
              have hD : va_D A [(ra 2, .inl (kI, 8, .inl (upd q_told 4 ((q_told 4) + 1)))), (ra 3, .inl (kI, 24, .inl (upd q_kind (12 + (q_told 4)).toNatClampNeg r16))), (ra 4, .inl (kI, 24, .inl (upd q_salt (12 + (q_told 4)).toNatClampNeg r257))), (ra 5, .inl (kI, 24, .inl (upd q_pace (12 + (q_told 4)).toNatClampNeg r267))), (ra 6, .inl (kI, 24, .inl (upd q_mute (12 + (q_told 4)).toNatClampNeg 1))), (ra 7, .inl (kI, 24, .inl (upd q_late (12 + (q_told 4)).toNatClampNeg 0))), (ra 1, .inl (kS, 4, .inr (.inr (.inr (.inr q_kinds))))), (m0, .inr (11, oX11 ra y331)), (ra 13, .inl (kI, 700, .inl q_tape))] := hDa
              clear hPa hDa
              have hPD9 := cl_s (wc := [(m0, .inr (11, oX11 ra y331)), (ra 2, .inl (kI, 8, .inl (upd q_told 4 ((q_told 4) + 1)))), (ra 3, .inl (kI, 24, .inl (upd q_kind (12 + (q_told 4)).toNatClampNeg r16))), (ra 4, .inl (kI, 24, .inl (upd q_salt (12 + (q_told 4)).toNatClampNeg r257))), (ra 5, .inl (kI, 24, .inl (upd q_pace (12 + (q_told 4)).toNatClampNeg r267))), (ra 6, .inl (kI, 24, .inl (upd q_mute (12 + (q_told 4)).toNatClampNeg 1))), (ra 7, .inl (kI, 24, .inl (upd q_late (12 + (q_told 4)).toNatClampNeg 0))), (ra 13, .inl (kI, 700, .inl q_tape)), (ra 1, .inl (kS, 4, .inr (.inr (.inr (.inr q_kinds)))))]) hP hD [7, 0, 1, 2, 3, 4, 5, 8, 6] rfl (by decide +kernel)
              have hP9 := hPD9.1
              have hD9 := hPD9.2
              exact W.vret hx hb hr (fun t ht hW => ⟨⟨(), rfl, trivial, y331, upd q_told 4 ((q_told 4) + 1), upd q_kind (12 + (q_told 4)).toNatClampNeg r16, upd q_salt (12 + (q_told 4)).toNatClampNeg r257, upd q_pace (12 + (q_told 4)).toNatClampNeg r267, upd q_mute (12 + (q_told 4)).toNatClampNeg 1, upd q_late (12 + (q_told 4)).toNatClampNeg 0, hq332, (fI_u hq_told (k := 4) ((iv_w b340 (by decide) (by decide)))), (fI_u hq_salt (k := (12 + (q_told 4)).toNatClampNeg) (w258.1)), (show (x0 2).toInt ≤ (y331 2).toInt from by omega), (show y331 3 = x0 3 from hq334.trans (hq272.trans (hq262.trans (hq251.trans (hq10))))), (show ∀ j : Nat, (j : Int) < (q_told 1).toInt → (q_from j).toInt < (q_to j).toInt from hLT), (show ∀ j : Nat, (j : Int) < (q_told 5).toInt → (q_from (20 + j)).toInt < (q_to (20 + j)).toInt from hLD), (show RRd tT nN y331 (rtrS tT nN sS (q_told 4)) from it_f (Q := RRd tT nN y331) c1 (hrr339)), fun _ => absurd (ok_next (ok_num (ok_next (ok_num (ok_next (rr_ok hrr276 c322)))))) (fun w => ok_fail ((kq_n hwk c18).symm ▸ w)), low_t (by decide), (show y331 1 = x0 1 from hq337.trans (hq274.trans (hq264.trans (hq253.trans (hq13))))), (show y331 10 = x0 10 from hq338.trans (hq275.trans (hq265.trans (hq254.trans (hq14))))), by rw [ht]; exact hP9, hD9⟩, hS.F ht⟩) hS.2.2 dX11_readRouter_178
          · have b341 : iv 1 1 (wS tT 9 (rtr4 tT nN sS)) := iv_neLo c320 b319 ivk_0 (by decide) (by decide)
            refine lv_iconst (v := 1) hx hb dX11_readRouter_135 ic_1 ?_
            refine lv_goto (tgt := 140) hx hb dX11_readRouter_136 rfl ?_
            refine va_iast hx hb hK hP hD hS 5 1 rfl rfl (iv_in b15 (by decide) (by decide)) dX11_readRouter_140 (fun H locs hPa hDa hS => ?_)
            clear hP hD
            have hP : va_P (dC, dI) vwCl [(ra 2, .inl (kI, 8, .inl q_told)), (ra 3, .inl (kI, 24, .inl (upd q_kind (12 + (q_told 4)).toNatClampNeg r16))), (ra 4, .inl (kI, 24, .inl (upd q_salt (12 + (q_told 4)).toNatClampNeg r257))), (ra 5, .inl (kI, 24, .inl (upd q_pace (12 + (q_told 4)).toNatClampNeg r267))), (ra 6, .inl (kI, 24, .inl (upd q_mute (12 + (q_told 4)).toNatClampNeg 1))), (ra 7, .inl (kI, 24, .inl (upd q_late (12 + (q_told 4)).toNatClampNeg 1))), (ra 1, .inl (kS, 4, .inr (.inr (.inr (.inr q_kinds))))), (m0, .inr (11, oX11 ra y269)), (ra 13, .inl (kI, 700, .inl q_tape))] H := hPa
            have hD : va_D A [(ra 2, .inl (kI, 8, .inl q_told)), (ra 3, .inl (kI, 24, .inl (upd q_kind (12 + (q_told 4)).toNatClampNeg r16))), (ra 4, .inl (kI, 24, .inl (upd q_salt (12 + (q_told 4)).toNatClampNeg r257))), (ra 5, .inl (kI, 24, .inl (upd q_pace (12 + (q_told 4)).toNatClampNeg r267))), (ra 6, .inl (kI, 24, .inl (upd q_mute (12 + (q_told 4)).toNatClampNeg 1))), (ra 7, .inl (kI, 24, .inl (upd q_late (12 + (q_told 4)).toNatClampNeg 1))), (ra 1, .inl (kS, 4, .inr (.inr (.inr (.inr q_kinds))))), (m0, .inr (11, oX11 ra y269)), (ra 13, .inl (kI, 700, .inl q_tape))] := hDa
            clear hPa hDa
            refine lv_aload_n hx hb dX11_readRouter_141 rfl (lv_at hl 2 rfl) ?_
            refine va_get (D := (dC, dI)) (ci := 11) (v := .int (y269 8)) (C := RX11) (T := TX11) (N := 61) hx hb hts hin11 hown hK hP 7 rfl rfl 22 (Nat.le_of_ble_eq_true rfl) hw_1 (fun _ h9 => h9) rfl dX11_readRouter_142 ?_
            refine lv_if_ne (tgt := 168) hx hb dX11_readRouter_145 rfl (fun c342 => ?_) (fun c342 => ?_)
            · have b343 : iv 1 5 (y269 8) := iv_neLo c342 (hq270 8 : iv 0 5 (y269 8)) ivk_0 (by decide) (by decide)
              have hrr344 : RRd tT nN y269 (manT tT nN (rtr4 tT nN sS)) := (mq_b hrr276 c342) ▸ hrr276
              refine lv_aload_n hx hb dX11_readRouter_168 rfl (lv_at hl 2 rfl) ?_
              refine va_get (D := (dC, dI)) (ci := 11) (v := .ref (ra 2)) (C := RX11) (T := TX11) (N := 61) hx hb hts hin11 hown hK hP 7 rfl rfl 3 (Nat.le_of_ble_eq_true rfl) hw_0 (fun _ h9 => h9) rfl dX11_readRouter_169 ?_
              refine lv_iconst (v := 4) hx hb dX11_readRouter_172 ic_4 ?_
              refine lv_dup2_11 hx hb dX11_readRouter_173 rfl rfl ?_
              refine va_iald hx hb hK hP 0 1 rfl rfl (vp_in_nI (n := 4) (by decide) (by decide)) dX11_readRouter_174 ?_
              refine W.eq (g2 := F0 m 175 ls [.int (q_told 4), .int 4, .ref (ra 2)]) rfl ?_
              refine lv_iconst (v := 1) hx hb dX11_readRouter_175 ic_1 ?_
              refine lv_iadd hx hb dX11_readRouter_176 ?_
              have b345 : iv 1 12 ((q_told 4) + 1) := iv_add b2 ivk_1 (by decide) (by decide) (by decide) (by decide)
              refine va_iast hx hb hK hP hD hS 0 1 rfl rfl (vp_in_nI (n := 4) (by decide) (by decide)) dX11_readRouter_177 (fun H locs hPa hDa hS => ?_)
              clear hP hD
              have hP : va_P (dC, dI) vwCl [(ra 2, .inl (kI, 8, .inl (upd q_told 4 ((q_told 4) + 1)))), (ra 3, .inl (kI, 24, .inl (upd q_kind (12 + (q_told 4)).toNatClampNeg r16))), (ra 4, .inl (kI, 24, .inl (upd q_salt (12 + (q_told 4)).toNatClampNeg r257))), (ra 5, .inl (kI, 24, .inl (upd q_pace (12 + (q_told 4)).toNatClampNeg r267))), (ra 6, .inl (kI, 24, .inl (upd q_mute (12 + (q_told 4)).toNatClampNeg 1))), (ra 7, .inl (kI, 24, .inl (upd q_late (12 + (q_told 4)).toNatClampNeg 1))), (ra 1, .inl (kS, 4, .inr (.inr (.inr (.inr q_kinds))))), (m0, .inr (11, oX11 ra y269)), (ra 13, .inl (kI, 700, .inl q_tape))] H := hPa
              have hD : va_D A [(ra 2, .inl (kI, 8, .inl (upd q_told 4 ((q_told 4) + 1)))), (ra 3, .inl (kI, 24, .inl (upd q_kind (12 + (q_told 4)).toNatClampNeg r16))), (ra 4, .inl (kI, 24, .inl (upd q_salt (12 + (q_told 4)).toNatClampNeg r257))), (ra 5, .inl (kI, 24, .inl (upd q_pace (12 + (q_told 4)).toNatClampNeg r267))), (ra 6, .inl (kI, 24, .inl (upd q_mute (12 + (q_told 4)).toNatClampNeg 1))), (ra 7, .inl (kI, 24, .inl (upd q_late (12 + (q_told 4)).toNatClampNeg 1))), (ra 1, .inl (kS, 4, .inr (.inr (.inr (.inr q_kinds))))), (m0, .inr (11, oX11 ra y269)), (ra 13, .inl (kI, 700, .inl q_tape))] := hDa
              clear hPa hDa
              have hPD9 := cl_s (wc := [(m0, .inr (11, oX11 ra y269)), (ra 2, .inl (kI, 8, .inl (upd q_told 4 ((q_told 4) + 1)))), (ra 3, .inl (kI, 24, .inl (upd q_kind (12 + (q_told 4)).toNatClampNeg r16))), (ra 4, .inl (kI, 24, .inl (upd q_salt (12 + (q_told 4)).toNatClampNeg r257))), (ra 5, .inl (kI, 24, .inl (upd q_pace (12 + (q_told 4)).toNatClampNeg r267))), (ra 6, .inl (kI, 24, .inl (upd q_mute (12 + (q_told 4)).toNatClampNeg 1))), (ra 7, .inl (kI, 24, .inl (upd q_late (12 + (q_told 4)).toNatClampNeg 1))), (ra 13, .inl (kI, 700, .inl q_tape)), (ra 1, .inl (kS, 4, .inr (.inr (.inr (.inr q_kinds)))))]) hP hD [7, 0, 1, 2, 3, 4, 5, 8, 6] rfl (by decide +kernel)
              have hP9 := hPD9.1
              have hD9 := hPD9.2
              exact W.vret hx hb hr (fun t ht hW => ⟨⟨(), rfl, trivial, y269, upd q_told 4 ((q_told 4) + 1), upd q_kind (12 + (q_told 4)).toNatClampNeg r16, upd q_salt (12 + (q_told 4)).toNatClampNeg r257, upd q_pace (12 + (q_told 4)).toNatClampNeg r267, upd q_mute (12 + (q_told 4)).toNatClampNeg 1, upd q_late (12 + (q_told 4)).toNatClampNeg 1, hq270, (fI_u hq_told (k := 4) ((iv_w b345 (by decide) (by decide)))), (fI_u hq_salt (k := (12 + (q_told 4)).toNatClampNeg) (w258.1)), (show (x0 2).toInt ≤ (y269 2).toInt from by omega), (show y269 3 = x0 3 from hq272.trans (hq262.trans (hq251.trans (hq10)))), (show ∀ j : Nat, (j : Int) < (q_told 1).toInt → (q_from j).toInt < (q_to j).toInt from hLT), (show ∀ j : Nat, (j : Int) < (q_told 5).toInt → (q_from (20 + j)).toInt < (q_to (20 + j)).toInt from hLD), (show RRd tT nN y269 (rtrS tT nN sS (q_told 4)) from it_f (Q := RRd tT nN y269) c1 (hrr344)), fun w => absurd w c342, low_t (by decide), (show y269 1 = x0 1 from hq274.trans (hq264.trans (hq253.trans (hq13)))), (show y269 10 = x0 10 from hq275.trans (hq265.trans (hq254.trans (hq14)))), by rw [ht]; exact hP9, hD9⟩, hS.F ht⟩) hS.2.2 dX11_readRouter_178
            · have b346 : iv 0 0 (y269 8) := iv_eqL c342 ivk_0
              refine lv_aload_n hx hb dX11_readRouter_148 rfl (lv_at hl 2 rfl) ?_
              refine va_get (D := (dC, dI)) (ci := 11) (v := .ref (ra 6)) (C := RX11) (T := TX11) (N := 61) hx hb hts hin11 hown hK hP 7 rfl rfl 7 (Nat.le_of_ble_eq_true rfl) hw_6 (fun _ h9 => h9) rfl dX11_readRouter_149 ?_
              refine lv_iload_n hx hb dX11_readRouter_152 rfl (lv_at hl 1 rfl) ?_
              refine va_iald hx hb hK hP 4 1 rfl rfl (iv_in b15 (by decide) (by decide)) dX11_readRouter_153 ?_
              refine W.eq (g2 := F0 m 154 ls [.int 1]) (by rw [upd_eq]) ?_
              refine lv_aload_n hx hb dX11_readRouter_154 rfl (lv_at hl 2 rfl) ?_
              refine va_get (D := (dC, dI)) (ci := 11) (v := .ref (ra 7)) (C := RX11) (T := TX11) (N := 61) hx hb hts hin11 hown hK hP 7 rfl rfl 8 (Nat.le_of_ble_eq_true rfl) hw_7 (fun _ h9 => h9) rfl dX11_readRouter_155 ?_
              refine lv_iload_n hx hb dX11_readRouter_158 rfl (lv_at hl 1 rfl) ?_
              refine va_iald hx hb hK hP 5 1 rfl rfl (iv_in b15 (by decide) (by decide)) dX11_readRouter_159 ?_
              refine W.eq (g2 := F0 m 160 ls [.int 1, .int 1]) (by rw [upd_eq]) ?_
              refine lv_iadd hx hb dX11_readRouter_160 ?_
              refine lv_topi (fun z347 e348 => ?_)
              obtain rfl : z347 = (2 : Int32) := e348.trans (by decide)
              refine lv_if_le (tgt := 168) hx hb dX11_readRouter_161 rfl (fun c9 => absurd c9 (by decide)) (fun _ => ?_)
              refine lv_aload_n hx hb dX11_readRouter_164 rfl (lv_at hl 2 rfl) ?_
              obtain ⟨hPc, hDc, hFc, hJn⟩ := cl_a (wc := [(m0, .inr (11, oX11 ra y269)), (ra 13, .inl (kI, 700, .inl q_tape))]) (wr := [(ra 2, .inl (kI, 8, .inl q_told)), (ra 3, .inl (kI, 24, .inl (upd q_kind (12 + (q_told 4)).toNatClampNeg r16))), (ra 4, .inl (kI, 24, .inl (upd q_salt (12 + (q_told 4)).toNatClampNeg r257))), (ra 5, .inl (kI, 24, .inl (upd q_pace (12 + (q_told 4)).toNatClampNeg r267))), (ra 6, .inl (kI, 24, .inl (upd q_mute (12 + (q_told 4)).toNatClampNeg 1))), (ra 7, .inl (kI, 24, .inl (upd q_late (12 + (q_told 4)).toNatClampNeg 1))), (ra 1, .inl (kS, 4, .inr (.inr (.inr (.inr q_kinds)))))]) hP hD hS hA [7, 8] [0, 1, 2, 3, 4, 5, 6] rfl rfl (by decide +kernel)
              refine va_callv (va_runV (As := []) (rest := []) ⟨hx, hb, hml, hown, hts⟩ (s11_stepOn l dC dI kB kI kJ kZ kC kS H.size m0 ra y269 q_tape tT nN (nextT tT nN (rtr4 tT nN sS)) (hq270) (hq_tape) (hrr276.2) (stp_of hrr276) (hTQ)) (cwV 0 hts gX11_readRouter_X11_stepOn rfl rfl rfl (by decide +kernel) ⟨Nat.le_of_ble_eq_true rfl, Nat.le_of_ble_eq_true rfl⟩) ⟨fun a U g mk q => by obtain ⟨q0, q1, qP, qE, qD⟩ := q; exact ⟨q0, q1, qP, kE_call qE, qD⟩, va_recv hK hP (ci := 11) (q0 := 7) rfl rfl, fun U hU hW => ⟨rfl, by rw [hU], by rw [hU]; exact hPc, kE_warm hW hE, hDc.weaken (fun _ _ _ _ => trivial)⟩⟩ rfl rfl hl.1 rfl (lv_room (Nat.le_of_ble_eq_true rfl)) dX11_readRouter_165 ⟨Nat.le_of_ble_eq_true rfl, Nat.le_of_ble_eq_true rfl⟩) hS (fun q _ h => hFc q h) hFc (fun u t H locs ht hvm w350 hB hz1 hk1 hS => ?_)
              obtain ⟨y351, hq352, hq353, hq354, hq355, hq356, hq357, hq358, hP1, hD1⟩ := hB
              try dsimp only at w350
              obtain ⟨hPa, hDa⟩ := hJn (w1 := [(m0, .inr (11, oX11 ra y351)), (ra 13, .inl (kI, 700, .inl q_tape))]) hk1 ht hP1 hD1
              clear hP hD hPc hDc hFc hJn hP1 hD1 hk1
              have hP : va_P (dC, dI) vwCl [(ra 2, .inl (kI, 8, .inl q_told)), (ra 3, .inl (kI, 24, .inl (upd q_kind (12 + (q_told 4)).toNatClampNeg r16))), (ra 4, .inl (kI, 24, .inl (upd q_salt (12 + (q_told 4)).toNatClampNeg r257))), (ra 5, .inl (kI, 24, .inl (upd q_pace (12 + (q_told 4)).toNatClampNeg r267))), (ra 6, .inl (kI, 24, .inl (upd q_mute (12 + (q_told 4)).toNatClampNeg 1))), (ra 7, .inl (kI, 24, .inl (upd q_late (12 + (q_told 4)).toNatClampNeg 1))), (ra 1, .inl (kS, 4, .inr (.inr (.inr (.inr q_kinds))))), (m0, .inr (11, oX11 ra y351)), (ra 13, .inl (kI, 700, .inl q_tape))] H := hPa
              have hD : va_D A [(ra 2, .inl (kI, 8, .inl q_told)), (ra 3, .inl (kI, 24, .inl (upd q_kind (12 + (q_told 4)).toNatClampNeg r16))), (ra 4, .inl (kI, 24, .inl (upd q_salt (12 + (q_told 4)).toNatClampNeg r257))), (ra 5, .inl (kI, 24, .inl (upd q_pace (12 + (q_told 4)).toNatClampNeg r267))), (ra 6, .inl (kI, 24, .inl (upd q_mute (12 + (q_told 4)).toNatClampNeg 1))), (ra 7, .inl (kI, 24, .inl (upd q_late (12 + (q_told 4)).toNatClampNeg 1))), (ra 1, .inl (kS, 4, .inr (.inr (.inr (.inr q_kinds))))), (m0, .inr (11, oX11 ra y351)), (ra 13, .inl (kI, 700, .inl q_tape))] := hDa
              clear hPa hDa
              refine W.widen (k := 0) (n := 0) (Nat.le_of_ble_eq_true rfl) (Nat.le_of_ble_eq_true rfl) ?_
              have hrr359 : RRd tT nN y351 (manT tT nN (rtr4 tT nN sS)) := (mq_s hrr276 c342 (Or.inl c280)) ▸ hq356
              refine lv_aload_n hx hb dX11_readRouter_168 rfl (lv_at hl 2 rfl) ?_
              refine va_get (D := (dC, dI)) (ci := 11) (v := .ref (ra 2)) (C := RX11) (T := TX11) (N := 61) hx hb hts hin11 hown hK hP 7 rfl rfl 3 (Nat.le_of_ble_eq_true rfl) hw_0 (fun _ h9 => h9) rfl dX11_readRouter_169 ?_
              refine lv_iconst (v := 4) hx hb dX11_readRouter_172 ic_4 ?_
              refine lv_dup2_11 hx hb dX11_readRouter_173 rfl rfl ?_
              refine va_iald hx hb hK hP 0 1 rfl rfl (vp_in_nI (n := 4) (by decide) (by decide)) dX11_readRouter_174 ?_
              refine W.eq (g2 := F0 m 175 ls [.int (q_told 4), .int 4, .ref (ra 2)]) rfl ?_
              refine lv_iconst (v := 1) hx hb dX11_readRouter_175 ic_1 ?_
              refine lv_iadd hx hb dX11_readRouter_176 ?_
              have b360 : iv 1 12 ((q_told 4) + 1) := iv_add b2 ivk_1 (by decide) (by decide) (by decide) (by decide)
              refine va_iast hx hb hK hP hD hS 0 1 rfl rfl (vp_in_nI (n := 4) (by decide) (by decide)) dX11_readRouter_177 (fun H locs hPa hDa hS => ?_)
              clear hP hD
              have hP : va_P (dC, dI) vwCl [(ra 2, .inl (kI, 8, .inl (upd q_told 4 ((q_told 4) + 1)))), (ra 3, .inl (kI, 24, .inl (upd q_kind (12 + (q_told 4)).toNatClampNeg r16))), (ra 4, .inl (kI, 24, .inl (upd q_salt (12 + (q_told 4)).toNatClampNeg r257))), (ra 5, .inl (kI, 24, .inl (upd q_pace (12 + (q_told 4)).toNatClampNeg r267))), (ra 6, .inl (kI, 24, .inl (upd q_mute (12 + (q_told 4)).toNatClampNeg 1))), (ra 7, .inl (kI, 24, .inl (upd q_late (12 + (q_told 4)).toNatClampNeg 1))), (ra 1, .inl (kS, 4, .inr (.inr (.inr (.inr q_kinds))))), (m0, .inr (11, oX11 ra y351)), (ra 13, .inl (kI, 700, .inl q_tape))] H := hPa
              have hD : va_D A [(ra 2, .inl (kI, 8, .inl (upd q_told 4 ((q_told 4) + 1)))), (ra 3, .inl (kI, 24, .inl (upd q_kind (12 + (q_told 4)).toNatClampNeg r16))), (ra 4, .inl (kI, 24, .inl (upd q_salt (12 + (q_told 4)).toNatClampNeg r257))), (ra 5, .inl (kI, 24, .inl (upd q_pace (12 + (q_told 4)).toNatClampNeg r267))), (ra 6, .inl (kI, 24, .inl (upd q_mute (12 + (q_told 4)).toNatClampNeg 1))), (ra 7, .inl (kI, 24, .inl (upd q_late (12 + (q_told 4)).toNatClampNeg 1))), (ra 1, .inl (kS, 4, .inr (.inr (.inr (.inr q_kinds))))), (m0, .inr (11, oX11 ra y351)), (ra 13, .inl (kI, 700, .inl q_tape))] := hDa
              clear hPa hDa
              have hPD9 := cl_s (wc := [(m0, .inr (11, oX11 ra y351)), (ra 2, .inl (kI, 8, .inl (upd q_told 4 ((q_told 4) + 1)))), (ra 3, .inl (kI, 24, .inl (upd q_kind (12 + (q_told 4)).toNatClampNeg r16))), (ra 4, .inl (kI, 24, .inl (upd q_salt (12 + (q_told 4)).toNatClampNeg r257))), (ra 5, .inl (kI, 24, .inl (upd q_pace (12 + (q_told 4)).toNatClampNeg r267))), (ra 6, .inl (kI, 24, .inl (upd q_mute (12 + (q_told 4)).toNatClampNeg 1))), (ra 7, .inl (kI, 24, .inl (upd q_late (12 + (q_told 4)).toNatClampNeg 1))), (ra 13, .inl (kI, 700, .inl q_tape)), (ra 1, .inl (kS, 4, .inr (.inr (.inr (.inr q_kinds)))))]) hP hD [7, 0, 1, 2, 3, 4, 5, 8, 6] rfl (by decide +kernel)
              have hP9 := hPD9.1
              have hD9 := hPD9.2
              exact W.vret hx hb hr (fun t ht hW => ⟨⟨(), rfl, trivial, y351, upd q_told 4 ((q_told 4) + 1), upd q_kind (12 + (q_told 4)).toNatClampNeg r16, upd q_salt (12 + (q_told 4)).toNatClampNeg r257, upd q_pace (12 + (q_told 4)).toNatClampNeg r267, upd q_mute (12 + (q_told 4)).toNatClampNeg 1, upd q_late (12 + (q_told 4)).toNatClampNeg 1, hq352, (fI_u hq_told (k := 4) ((iv_w b360 (by decide) (by decide)))), (fI_u hq_salt (k := (12 + (q_told 4)).toNatClampNeg) (w258.1)), (show (x0 2).toInt ≤ (y351 2).toInt from by omega), (show y351 3 = x0 3 from hq354.trans (hq272.trans (hq262.trans (hq251.trans (hq10))))), (show ∀ j : Nat, (j : Int) < (q_told 1).toInt → (q_from j).toInt < (q_to j).toInt from hLT), (show ∀ j : Nat, (j : Int) < (q_told 5).toInt → (q_from (20 + j)).toInt < (q_to (20 + j)).toInt from hLD), (show RRd tT nN y351 (rtrS tT nN sS (q_told 4)) from it_f (Q := RRd tT nN y351) c1 (hrr359)), fun _ => absurd (ok_next (ok_num (ok_next (ok_num (ok_next (rr_ok hrr276 c342)))))) (fun w => ok_fail ((kq_n hwk c18).symm ▸ w)), low_t (by decide), (show y351 1 = x0 1 from hq357.trans (hq274.trans (hq264.trans (hq253.trans (hq13))))), (show y351 10 = x0 10 from hq358.trans (hq275.trans (hq265.trans (hq254.trans (hq14))))), by rw [ht]; exact hP9, hD9⟩, hS.F ht⟩) hS.2.2 dX11_readRouter_178
    · have b361 : iv 1 5 (x0 8) := iv_neLo c3 (hX 8 : iv 0 5 (x0 8)) ivk_0 (by decide) (by decide)
      have hP9 := hP
      have hD9 := hD
      exact W.vret hx hb hr (fun t ht hW => ⟨⟨(), rfl, trivial, x0, q_told, q_kind, q_salt, q_pace, q_mute, q_late, hX, hq_told, hq_salt, (show (x0 2).toInt ≤ (x0 2).toInt from by omega), (show x0 3 = x0 3 from rfl), (show ∀ j : Nat, (j : Int) < (q_told 1).toInt → (q_from j).toInt < (q_to j).toInt from hLT), (show ∀ j : Nat, (j : Int) < (q_told 5).toInt → (q_from (20 + j)).toInt < (q_to (20 + j)).toInt from hLD), (show RRd tT nN x0 (rtrS tT nN sS (q_told 4)) from (rt_in hRr c3) ▸ hRr), (show x0 8 = 0 → q_told = upd q_told 4 (q_told 4 + 1) ∧ q_kind = upd q_kind ((12 + (q_told 4)).toNatClampNeg) (kndS tT (rtr1 tT nN sS)) ∧ q_salt = upd q_salt ((12 + (q_told 4)).toNatClampNeg) (valS tT (rtr2 tT nN sS)) ∧ q_pace = upd q_pace ((12 + (q_told 4)).toNatClampNeg) (valS tT (rtr3 tT nN sS)) ∧ q_mute = upd q_mute ((12 + (q_told 4)).toNatClampNeg) (wS tT 8 (rtr4 tT nN sS)) ∧ q_late = upd q_late ((12 + (q_told 4)).toNatClampNeg) (wS tT 9 (rtr4 tT nN sS)) from fun w => absurd w c3), (show LowT q_told q_from q_to q_told q_from q_to from low_0), (show x0 1 = x0 1 from rfl), (show x0 10 = x0 10 from rfl), by rw [ht]; exact hP9, hD9⟩, hS.F ht⟩) hS.2.2 dX11_readRouter_23
  · have b362 : iv 12 12 (q_told 4) := iv_eqL c1 ivk_12
    refine lv_aload_n hx hb dX11_readRouter_11 rfl (lv_at hl 0 rfl) ?_
    refine lv_iconst (v := 2) hx hb dX11_readRouter_12 ic_2 ?_
    obtain ⟨hPc, hDc, hFc, hJn⟩ := cl_a (wc := [(m0, .inr (11, oX11 ra x0))]) (wr := [(ra 2, .inl (kI, 8, .inl q_told)), (ra 3, .inl (kI, 24, .inl q_kind)), (ra 4, .inl (kI, 24, .inl q_salt)), (ra 5, .inl (kI, 24, .inl q_pace)), (ra 6, .inl (kI, 24, .inl q_mute)), (ra 7, .inl (kI, 24, .inl q_late)), (ra 13, .inl (kI, 700, .inl q_tape)), (ra 1, .inl (kS, 4, .inr (.inr (.inr (.inr q_kinds)))))]) hP hD hS hA [0] [1, 2, 3, 4, 5, 6, 7, 8] rfl rfl (by decide +kernel)
    refine va_callv (va_runV (As := [.int 2]) (rest := []) ⟨hx, hb, hml, hown, hts⟩ (s11_wrong l dC dI kB kI kJ kZ kC kS s.heap.size m0 ra x0 2 tT nN sS (hX) ((iv_w ivk_2 (by decide) (by decide))) (hRr)) (cwV 1 hts gX11_readRouter_X11_wrong rfl rfl rfl (by decide +kernel) ⟨Nat.le_of_ble_eq_true rfl, Nat.le_of_ble_eq_true rfl⟩) ⟨fun a U g mk q => by obtain ⟨q0, q1, qP, qE, qD⟩ := q; exact ⟨q0, q1, qP, kE_call qE, qD⟩, va_recv hK hP (ci := 11) (q0 := 0) rfl rfl, fun U hU hW => ⟨rfl, by rw [hU], by rw [hU]; exact hPc, kE_warm hW hE, hDc.weaken (fun _ _ _ _ => trivial)⟩⟩ rfl rfl hl.1 rfl (lv_room (Nat.le_of_ble_eq_true rfl)) dX11_readRouter_13 ⟨Nat.le_of_ble_eq_true rfl, Nat.le_of_ble_eq_true rfl⟩) hS (fun q _ h => hFc q h) hFc (fun u t H locs ht hvm w364 hB hz1 hk1 hS => ?_)
    obtain ⟨y365, hq366, hq367, hq368, hq369, hq370, hq371, hq372, hP1, hD1⟩ := hB
    try dsimp only at w364
    obtain ⟨hPa, hDa⟩ := hJn (w1 := [(m0, .inr (11, oX11 ra y365))]) hk1 ht hP1 hD1
    clear hP hD hPc hDc hFc hJn hP1 hD1 hk1
    have hP : va_P (dC, dI) vwCl [(ra 2, .inl (kI, 8, .inl q_told)), (ra 3, .inl (kI, 24, .inl q_kind)), (ra 4, .inl (kI, 24, .inl q_salt)), (ra 5, .inl (kI, 24, .inl q_pace)), (ra 6, .inl (kI, 24, .inl q_mute)), (ra 7, .inl (kI, 24, .inl q_late)), (ra 13, .inl (kI, 700, .inl q_tape)), (ra 1, .inl (kS, 4, .inr (.inr (.inr (.inr q_kinds))))), (m0, .inr (11, oX11 ra y365))] H := hPa
    have hD : va_D A [(ra 2, .inl (kI, 8, .inl q_told)), (ra 3, .inl (kI, 24, .inl q_kind)), (ra 4, .inl (kI, 24, .inl q_salt)), (ra 5, .inl (kI, 24, .inl q_pace)), (ra 6, .inl (kI, 24, .inl q_mute)), (ra 7, .inl (kI, 24, .inl q_late)), (ra 13, .inl (kI, 700, .inl q_tape)), (ra 1, .inl (kS, 4, .inr (.inr (.inr (.inr q_kinds))))), (m0, .inr (11, oX11 ra y365))] := hDa
    clear hPa hDa
    refine W.widen (k := 0) (n := 0) (Nat.le_of_ble_eq_true rfl) (Nat.le_of_ble_eq_true rfl) ?_
    refine lv_aload_n hx hb dX11_readRouter_16 rfl (lv_at hl 0 rfl) ?_
    refine va_get (D := (dC, dI)) (ci := 11) (v := .int (y365 8)) (C := RX11) (T := TX11) (N := 61) hx hb hts hin11 hown hK hP 8 rfl rfl 22 (Nat.le_of_ble_eq_true rfl) hw_1 (fun _ h9 => h9) rfl dX11_readRouter_17 ?_
    refine lv_if_eq (tgt := 24) hx hb dX11_readRouter_20 rfl (fun c9 => absurd c9 (iv_ne hq367 ivk_0 (by decide))) (fun _ => ?_)
    have hPD9 := cl_s (wc := [(m0, .inr (11, oX11 ra y365)), (ra 2, .inl (kI, 8, .inl q_told)), (ra 3, .inl (kI, 24, .inl q_kind)), (ra 4, .inl (kI, 24, .inl q_salt)), (ra 5, .inl (kI, 24, .inl q_pace)), (ra 6, .inl (kI, 24, .inl q_mute)), (ra 7, .inl (kI, 24, .inl q_late)), (ra 13, .inl (kI, 700, .inl q_tape)), (ra 1, .inl (kS, 4, .inr (.inr (.inr (.inr q_kinds)))))]) hP hD [8, 0, 1, 2, 3, 4, 5, 6, 7] rfl (by decide +kernel)
    have hP9 := hPD9.1
    have hD9 := hPD9.2
    exact W.vret hx hb hr (fun t ht hW => ⟨⟨(), rfl, trivial, y365, q_told, q_kind, q_salt, q_pace, q_mute, q_late, hq366, hq_told, hq_salt, (show (x0 2).toInt ≤ (y365 2).toInt from by omega), (show y365 3 = x0 3 from hq369), (show ∀ j : Nat, (j : Int) < (q_told 1).toInt → (q_from j).toInt < (q_to j).toInt from hLT), (show ∀ j : Nat, (j : Int) < (q_told 5).toInt → (q_from (20 + j)).toInt < (q_to (20 + j)).toInt from hLD), (show RRd tT nN y365 (rtrS tT nN sS (q_told 4)) from it_t (Q := RRd tT nN y365) c1 (hq370)), (show y365 8 = 0 → q_told = upd q_told 4 (q_told 4 + 1) ∧ q_kind = upd q_kind ((12 + (q_told 4)).toNatClampNeg) (kndS tT (rtr1 tT nN sS)) ∧ q_salt = upd q_salt ((12 + (q_told 4)).toNatClampNeg) (valS tT (rtr2 tT nN sS)) ∧ q_pace = upd q_pace ((12 + (q_told 4)).toNatClampNeg) (valS tT (rtr3 tT nN sS)) ∧ q_mute = upd q_mute ((12 + (q_told 4)).toNatClampNeg) (wS tT 8 (rtr4 tT nN sS)) ∧ q_late = upd q_late ((12 + (q_told 4)).toNatClampNeg) (wS tT 9 (rtr4 tT nN sS)) from fun w => absurd w (rr_nf hq370)), (show LowT q_told q_from q_to q_told q_from q_to from low_0), (show y365 1 = x0 1 from hq371), (show y365 10 = x0 10 from hq372), by rw [ht]; exact hP9, hD9⟩, hS.F ht⟩) hS.2.2 dX11_readRouter_23
def rm_s11_readLink : Room := { frames := 3, cells := 0, slots := 0, locals := 64 }
set_option maxHeartbeats 4000000 in
set_option maxRecDepth 100000 in
theorem s11_readLink (l : Launch) (dC : Nat → ClassId) (dI : Nat → Nat → Nat) (kB kI kJ kZ kC kS : ClassId) (sz : Nat) (m0 : Nat) (ra : Nat → Nat) (x0 : Nat → Int32) (q_told : Nat → Int32) (q_from : Nat → Int32) (q_to : Nat → Int32) (q_tape : Nat → Int32) (tT : Nat → Int32) (nN : Int32) (sS : StT) (hX : fI lX11 hX11 x0) (hq_told : fI lTold hTold q_told) (hq_from : fI (fun _ => 0) (fun _ => 11) q_from) (hq_to : fI (fun _ => 0) (fun _ => 11) q_to) (hq_tape : fI (fun _ => 0) (fun _ => 255) q_tape) (hLT : ∀ j : Nat, (j : Int) < (q_told 1).toInt → (q_from j).toInt < (q_to j).toInt) (hLD : ∀ j : Nat, (j : Int) < (q_told 5).toInt → (q_from (20 + j)).toInt < (q_to (20 + j)).toInt) (hRr : RRd tT nN x0 sS) (hTQ : tT = q_tape) : Met l yX11_readLink wsX11_readLink rm_s11_readLink (va_Pc [.ref m0] (fun U => U.heap.size = sz ∧ va_P (dC, dI) vwCl [(m0, .inr (11, oX11 ra x0)), (ra 2, .inl (kI, 8, .inl q_told)), (ra 8, .inl (kI, 40, .inl q_from)), (ra 9, .inl (kI, 40, .inl q_to)), (ra 13, .inl (kI, 700, .inl q_tape))] U.heap ∧ kE dC dI kB kI kJ kZ kC kS U ∧ va_D (fun _ => True) [(m0, .inr (11, oX11 ra x0)), (ra 2, .inl (kI, 8, .inl q_told)), (ra 8, .inl (kI, 40, .inl q_from)), (ra 9, .inl (kI, 40, .inl q_to)), (ra 13, .inl (kI, 700, .inl q_tape))])) (va_Qv (fun (_ : Unit) => True) (fun _ t => ∃ (x0' : Nat → Int32) (q_told' : Nat → Int32) (q_from' : Nat → Int32) (q_to' : Nat → Int32), fI lX11 hX11 x0' ∧ fI lTold hTold q_told' ∧ fI (fun _ => 0) (fun _ => 11) q_from' ∧ fI (fun _ => 0) (fun _ => 11) q_to' ∧ ((x0 2).toInt ≤ (x0' 2).toInt) ∧ (x0' 3 = x0 3) ∧ (∀ j : Nat, (j : Int) < (q_told' 1).toInt → (q_from' j).toInt < (q_to' j).toInt) ∧ (∀ j : Nat, (j : Int) < (q_told' 5).toInt → (q_from' (20 + j)).toInt < (q_to' (20 + j)).toInt) ∧ (RRd tT nN x0' (lnkS tT nN sS (q_told 4) (q_told 5) (shT 20 q_from) (shT 20 q_to))) ∧ (x0' 8 = 0 → q_told' = upd q_told 5 (q_told 5 + 1) ∧ q_from' = upd q_from ((20 + (q_told 5)).toNatClampNeg) (lnkA tT nN sS) ∧ q_to' = upd q_to ((20 + (q_told 5)).toNatClampNeg) (lnkB tT nN sS (q_told 4) (q_told 5) (shT 20 q_from))) ∧ (LowT q_told q_from q_to q_told' q_from' q_to') ∧ (x0' 1 = x0 1) ∧ (x0' 10 = x0 10) ∧ va_P (dC, dI) vwCl [(m0, .inr (11, oX11 ra x0')), (ra 2, .inl (kI, 8, .inl q_told')), (ra 8, .inl (kI, 40, .inl q_from')), (ra 9, .inl (kI, 40, .inl q_to')), (ra 13, .inl (kI, 700, .inl q_tape))] t.heap ∧ va_D (va_A [(m0, .inr (11, oX11 ra x0)), (ra 2, .inl (kI, 8, .inl q_told)), (ra 8, .inl (kI, 40, .inl q_from)), (ra 9, .inl (kI, 40, .inl q_to)), (ra 13, .inl (kI, 700, .inl q_tape))] sz) [(m0, .inr (11, oX11 ra x0')), (ra 2, .inl (kI, 8, .inl q_told')), (ra 8, .inl (kI, 40, .inl q_from')), (ra 9, .inl (kI, 40, .inl q_to')), (ra 13, .inl (kI, 700, .inl q_tape))]) (va_A [(m0, .inr (11, oX11 ra x0)), (ra 2, .inl (kI, 8, .inl q_told)), (ra 8, .inl (kI, 40, .inl q_from)), (ra 9, .inl (kI, 40, .inl q_to)), (ra 13, .inl (kI, 700, .inl q_tape))] sz)) 0 0 (va_A [(m0, .inr (11, oX11 ra x0)), (ra 2, .inl (kI, 8, .inl q_told)), (ra 8, .inl (kI, 40, .inl q_from)), (ra 9, .inl (kI, 40, .inl q_to)), (ra 13, .inl (kI, 700, .inl q_tape))] sz) := by
  refine Met.ofW (cc := cX11_readLink) (maxL := 3) (ret := none) (by decide) rfl ?_
  intro p e s m args0 below meth c s₁ B hml hv
  obtain ⟨hargs, hsz, hP, hE, hD0⟩ := hv
  have hx := B.exec
  have hb := B.bytes
  have hr := B.returns
  have hts := atoms_spec (ws := wsX11_readLink) B.pre
  have hown : s.vm.findClass RX11 = some m.cls := findClass_of_methodNamed B.named
  have hlocks := B.notSynchronized
  have hK := hE.1
  have hin11 : ∀ w ∈ wsX110, w ∈ wsX11_readLink := fun _ h9 => List.mem_cons_of_mem _ (List.mem_append_right _ h9)
  have hw_0 := hts (.fieldLink RX11 34 "PathProberModel" "told" "[I") (List.mem_of_getElem? (i := 1) rfl)
  have hw_1 := hts (.fieldLink RX11 184 "PathProberModel" "bad" "I") (List.mem_of_getElem? (i := 2) rfl)
  have hw_2 := hts (.fieldLink RX11 53 "PathProberModel" "from" "[I") (List.mem_of_getElem? (i := 3) rfl)
  have hw_3 := hts (.fieldLink RX11 56 "PathProberModel" "to" "[I") (List.mem_of_getElem? (i := 4) rfl)
  subst hsz
  have hD := hD0.self (sz := s.heap.size)
  generalize hAe : va_A [(m0, .inr (11, oX11 ra x0)), (ra 2, .inl (kI, 8, .inl q_told)), (ra 8, .inl (kI, 40, .inl q_from)), (ra 9, .inl (kI, 40, .inl q_to)), (ra 13, .inl (kI, 700, .inl q_tape))] s.heap.size = A at hD ⊢
  have hA : ∀ q : Nat, s.heap.size ≤ q → A q := fun q h => by rw [← hAe]; exact Or.inr h
  have hS : va_S A s.heap s.heap [] := va_S.rf
  have hP : va_P (dC, dI) vwCl [(m0, .inr (11, oX11 ra x0)), (ra 2, .inl (kI, 8, .inl q_told)), (ra 8, .inl (kI, 40, .inl q_from)), (ra 9, .inl (kI, 40, .inl q_to)), (ra 13, .inl (kI, 700, .inl q_tape))] s.heap := hP
  have hl := lv_entry ([.ref m0]) (n := 3) (Nat.le_of_ble_eq_true rfl)
  have hla : entryFrame m args0 3 = entryFrame m ([.ref m0] : List Value).toArray 3 := by rw [hargs]
  rw [hla, lg_entry_eq]
  generalize (lg_sl ([.ref m0]) ++ List.replicate (3 - (lg_sl ([.ref m0])).length) Slot.unset).toArray = ls at hl ⊢
  have hl : lv_has ls 3 [(0, .ref m0)] := hl
  refine lv_aload_n hx hb dX11_readLink_0 rfl (lv_at hl 0 rfl) ?_
  refine va_get (D := (dC, dI)) (ci := 11) (v := .ref (ra 2)) (C := RX11) (T := TX11) (N := 61) hx hb hts hin11 hown hK hP 0 rfl rfl 3 (Nat.le_of_ble_eq_true rfl) hw_0 (fun _ h9 => h9) rfl dX11_readLink_1 ?_
  refine lv_iconst (v := 5) hx hb dX11_readLink_4 ic_5 ?_
  refine va_iald hx hb hK hP 1 1 rfl rfl (vp_in_nI (n := 5) (by decide) (by decide)) dX11_readLink_5 ?_
  refine W.eq (g2 := F0 m 6 ls [.int (q_told 5)]) rfl ?_
  refine lv_bipush (v := 20) hx hb dX11_readLink_6 bp_20 ?_
  refine lv_icmp_ne (tgt := 16) hx hb dX11_readLink_8 rfl (fun c1 => ?_) (fun c1 => ?_)
  · have b2 : iv 0 19 (q_told 5) := iv_neHi c1 (hq_told 5 : iv 0 20 (q_told 5)) ivk_20 (by decide) (by decide)
    refine lv_aload_n hx hb dX11_readLink_16 rfl (lv_at hl 0 rfl) ?_
    refine va_get (D := (dC, dI)) (ci := 11) (v := .int (x0 8)) (C := RX11) (T := TX11) (N := 61) hx hb hts hin11 hown hK hP 0 rfl rfl 22 (Nat.le_of_ble_eq_true rfl) hw_1 (fun _ h9 => h9) rfl dX11_readLink_17 ?_
    refine lv_if_eq (tgt := 24) hx hb dX11_readLink_20 rfl (fun c3 => ?_) (fun c3 => ?_)
    · have b4 : iv 0 0 (x0 8) := iv_eqL c3 ivk_0
      refine lv_aload_n hx hb dX11_readLink_24 rfl (lv_at hl 0 rfl) ?_
      obtain ⟨hPc, hDc, hFc, hJn⟩ := cl_a (wc := [(m0, .inr (11, oX11 ra x0)), (ra 13, .inl (kI, 700, .inl q_tape))]) (wr := [(ra 2, .inl (kI, 8, .inl q_told)), (ra 8, .inl (kI, 40, .inl q_from)), (ra 9, .inl (kI, 40, .inl q_to))]) hP hD hS hA [0, 4] [1, 2, 3] rfl rfl (by decide +kernel)
      refine va_callv (va_runV (As := []) (rest := []) ⟨hx, hb, hml, hown, hts⟩ (s11_stepOn l dC dI kB kI kJ kZ kC kS s.heap.size m0 ra x0 q_tape tT nN (nextT tT nN sS) (hX) (hq_tape) (hRr.2) (stp_of hRr) (hTQ)) (cwV 0 hts gX11_readLink_X11_stepOn rfl rfl rfl (by decide +kernel) ⟨Nat.le_of_ble_eq_true rfl, Nat.le_of_ble_eq_true rfl⟩) ⟨fun a U g mk q => by obtain ⟨q0, q1, qP, qE, qD⟩ := q; exact ⟨q0, q1, qP, kE_call qE, qD⟩, va_recv hK hP (ci := 11) (q0 := 0) rfl rfl, fun U hU hW => ⟨rfl, by rw [hU], by rw [hU]; exact hPc, kE_warm hW hE, hDc.weaken (fun _ _ _ _ => trivial)⟩⟩ rfl rfl hl.1 rfl (lv_room (Nat.le_of_ble_eq_true rfl)) dX11_readLink_25 ⟨Nat.le_of_ble_eq_true rfl, Nat.le_of_ble_eq_true rfl⟩) hS (fun q _ h => hFc q h) hFc (fun u t H locs ht hvm w6 hB hz1 hk1 hS => ?_)
      obtain ⟨y7, hq8, hq9, hq10, hq11, hq12, hq13, hq14, hP1, hD1⟩ := hB
      try dsimp only at w6
      obtain ⟨hPa, hDa⟩ := hJn (w1 := [(m0, .inr (11, oX11 ra y7)), (ra 13, .inl (kI, 700, .inl q_tape))]) hk1 ht hP1 hD1
      clear hP hD hPc hDc hFc hJn hP1 hD1 hk1
      have hP : va_P (dC, dI) vwCl [(ra 2, .inl (kI, 8, .inl q_told)), (ra 8, .inl (kI, 40, .inl q_from)), (ra 9, .inl (kI, 40, .inl q_to)), (m0, .inr (11, oX11 ra y7)), (ra 13, .inl (kI, 700, .inl q_tape))] H := hPa
      have hD : va_D A [(ra 2, .inl (kI, 8, .inl q_told)), (ra 8, .inl (kI, 40, .inl q_from)), (ra 9, .inl (kI, 40, .inl q_to)), (m0, .inr (11, oX11 ra y7)), (ra 13, .inl (kI, 700, .inl q_tape))] := hDa
      clear hPa hDa
      refine W.widen (k := 0) (n := 0) (Nat.le_of_ble_eq_true rfl) (Nat.le_of_ble_eq_true rfl) ?_
      refine lv_aload_n hx hb dX11_readLink_28 rfl (lv_at hl 0 rfl) ?_
      obtain ⟨hPc, hDc, hFc, hJn⟩ := cl_a (wc := [(m0, .inr (11, oX11 ra y7)), (ra 2, .inl (kI, 8, .inl q_told))]) (wr := [(ra 8, .inl (kI, 40, .inl q_from)), (ra 9, .inl (kI, 40, .inl q_to)), (ra 13, .inl (kI, 700, .inl q_tape))]) hP hD hS hA [3, 0] [1, 2, 4] rfl rfl (by decide +kernel)
      refine va_calli (va_runV (As := []) (rest := []) ⟨hx, hb, hml, hown, hts⟩ (s11_routerNow l dC dI kB kI kJ kZ kC kS H.size m0 ra y7 q_told tT nN (nextT tT nN sS) (hq8) (hq_told) (hq12)) (cwV 0 hts gX11_readLink_X11_routerNow rfl rfl rfl (by decide +kernel) ⟨Nat.le_of_ble_eq_true rfl, Nat.le_of_ble_eq_true rfl⟩) ⟨fun a U g mk q => by obtain ⟨q0, q1, qP, qE, qD⟩ := q; exact ⟨q0, q1, qP, kE_call qE, qD⟩, va_recv hK hP (ci := 11) (q0 := 3) rfl rfl, fun U hU hW => ⟨rfl, by rw [hU], by rw [hU]; exact hPc, kE_warm hW hE, hDc.weaken (fun _ _ _ _ => trivial)⟩⟩ rfl rfl hl.1 rfl (lv_room (Nat.le_of_ble_eq_true rfl)) dX11_readLink_29 ⟨Nat.le_of_ble_eq_true rfl, Nat.le_of_ble_eq_true rfl⟩) hS (fun q _ h => hFc q h) hFc (fun r15 u t H locs ht hvm w16 hB hz1 hk1 hS => ?_)
      obtain ⟨y17, hq18, hq19, hq20, hq21, hq22, hq23, hP1, hD1⟩ := hB
      try dsimp only at w16
      obtain ⟨hPa, hDa⟩ := hJn (w1 := [(m0, .inr (11, oX11 ra y17)), (ra 2, .inl (kI, 8, .inl q_told))]) hk1 ht hP1 hD1
      clear hP hD hPc hDc hFc hJn hP1 hD1 hk1
      have hP : va_P (dC, dI) vwCl [(ra 8, .inl (kI, 40, .inl q_from)), (ra 9, .inl (kI, 40, .inl q_to)), (ra 13, .inl (kI, 700, .inl q_tape)), (m0, .inr (11, oX11 ra y17)), (ra 2, .inl (kI, 8, .inl q_told))] H := hPa
      have hD : va_D A [(ra 8, .inl (kI, 40, .inl q_from)), (ra 9, .inl (kI, 40, .inl q_to)), (ra 13, .inl (kI, 700, .inl q_tape)), (m0, .inr (11, oX11 ra y17)), (ra 2, .inl (kI, 8, .inl q_told))] := hDa
      clear hPa hDa
      refine W.widen (k := 0) (n := 0) (Nat.le_of_ble_eq_true rfl) (Nat.le_of_ble_eq_true rfl) ?_
      have hv9 := w16.2
      refine lv_istore_n (lv' := [(1, .int r15), (0, .ref m0)]) hx hb dX11_readLink_32 rfl hl (Nat.le_of_ble_eq_true rfl) rfl (fun ls hl => ?_)
      refine lv_aload_n hx hb dX11_readLink_33 rfl (lv_at hl 1 rfl) ?_
      refine va_get (D := (dC, dI)) (ci := 11) (v := .int (y17 8)) (C := RX11) (T := TX11) (N := 61) hx hb hts hin11 hown hK hP 3 rfl rfl 22 (Nat.le_of_ble_eq_true rfl) hw_1 (fun _ h9 => h9) rfl dX11_readLink_34 ?_
      refine lv_if_ne (tgt := 54) hx hb dX11_readLink_37 rfl (fun c24 => ?_) (fun c24 => ?_)
      · have b25 : iv 1 5 (y17 8) := iv_neLo c24 (hq18 8 : iv 0 5 (y17 8)) ivk_0 (by decide) (by decide)
        have hrr26 : RRd tT nN y17 (iteT (cntT (shT 20 q_from) (lnkA tT nN sS) (q_told 5).toNatClampNeg = 4) (failT 2 (lnk1 tT nN sS (q_told 4))) (lnk1 tT nN sS (q_told 4))) := ite_r hq21 c24 ▸ hq21
        refine lv_aload_n hx hb dX11_readLink_54 rfl (lv_at hl 1 rfl) ?_
        refine va_get (D := (dC, dI)) (ci := 11) (v := .int (y17 8)) (C := RX11) (T := TX11) (N := 61) hx hb hts hin11 hown hK hP 3 rfl rfl 22 (Nat.le_of_ble_eq_true rfl) hw_1 (fun _ h9 => h9) rfl dX11_readLink_55 ?_
        refine lv_if_ne (tgt := 65) hx hb dX11_readLink_58 rfl (fun _ => ?_) (fun c9 => absurd c9 (c24))
        have hrr27 : RRd tT nN y17 (lnk2 tT nN sS (q_told 4) (q_told 5) (shT 20 q_from)) := rr_stepN hrr26 c24
        refine lv_aload_n hx hb dX11_readLink_65 rfl (lv_at hl 1 rfl) ?_
        obtain ⟨hPc, hDc, hFc, hJn⟩ := cl_a (wc := [(m0, .inr (11, oX11 ra y17)), (ra 2, .inl (kI, 8, .inl q_told))]) (wr := [(ra 8, .inl (kI, 40, .inl q_from)), (ra 9, .inl (kI, 40, .inl q_to)), (ra 13, .inl (kI, 700, .inl q_tape))]) hP hD hS hA [3, 4] [0, 1, 2] rfl rfl (by decide +kernel)
        refine va_calli (va_runV (As := []) (rest := []) ⟨hx, hb, hml, hown, hts⟩ (s11_routerNow l dC dI kB kI kJ kZ kC kS H.size m0 ra y17 q_told tT nN (lnk2 tT nN sS (q_told 4) (q_told 5) (shT 20 q_from)) (hq18) (hq_told) (hrr27)) (cwV 0 hts gX11_readLink_X11_routerNow rfl rfl rfl (by decide +kernel) ⟨Nat.le_of_ble_eq_true rfl, Nat.le_of_ble_eq_true rfl⟩) ⟨fun a U g mk q => by obtain ⟨q0, q1, qP, qE, qD⟩ := q; exact ⟨q0, q1, qP, kE_call qE, qD⟩, va_recv hK hP (ci := 11) (q0 := 3) rfl rfl, fun U hU hW => ⟨rfl, by rw [hU], by rw [hU]; exact hPc, kE_warm hW hE, hDc.weaken (fun _ _ _ _ => trivial)⟩⟩ rfl rfl hl.1 rfl (lv_room (Nat.le_of_ble_eq_true rfl)) dX11_readLink_66 ⟨Nat.le_of_ble_eq_true rfl, Nat.le_of_ble_eq_true rfl⟩) hS (fun q _ h => hFc q h) hFc (fun r28 u t H locs ht hvm w29 hB hz1 hk1 hS => ?_)
        obtain ⟨y30, hq31, hq32, hq33, hq34, hq35, hq36, hP1, hD1⟩ := hB
        try dsimp only at w29
        obtain ⟨hPa, hDa⟩ := hJn (w1 := [(m0, .inr (11, oX11 ra y30)), (ra 2, .inl (kI, 8, .inl q_told))]) hk1 ht hP1 hD1
        clear hP hD hPc hDc hFc hJn hP1 hD1 hk1
        have hP : va_P (dC, dI) vwCl [(ra 8, .inl (kI, 40, .inl q_from)), (ra 9, .inl (kI, 40, .inl q_to)), (ra 13, .inl (kI, 700, .inl q_tape)), (m0, .inr (11, oX11 ra y30)), (ra 2, .inl (kI, 8, .inl q_told))] H := hPa
        have hD : va_D A [(ra 8, .inl (kI, 40, .inl q_from)), (ra 9, .inl (kI, 40, .inl q_to)), (ra 13, .inl (kI, 700, .inl q_tape)), (m0, .inr (11, oX11 ra y30)), (ra 2, .inl (kI, 8, .inl q_told))] := hDa
        clear hPa hDa
        refine W.widen (k := 0) (n := 0) (Nat.le_of_ble_eq_true rfl) (Nat.le_of_ble_eq_true rfl) ?_
        have hv8 := w29.2
        refine lv_istore_n (lv' := [(2, .int r28), (1, .int r15), (0, .ref m0)]) hx hb dX11_readLink_69 rfl hl (Nat.le_of_ble_eq_true rfl) rfl (fun ls hl => ?_)
        refine lv_aload_n hx hb dX11_readLink_70 rfl (lv_at hl 2 rfl) ?_
        refine va_get (D := (dC, dI)) (ci := 11) (v := .int (y30 8)) (C := RX11) (T := TX11) (N := 61) hx hb hts hin11 hown hK hP 3 rfl rfl 22 (Nat.le_of_ble_eq_true rfl) hw_1 (fun _ h9 => h9) rfl dX11_readLink_71 ?_
        refine lv_if_ne (tgt := 96) hx hb dX11_readLink_74 rfl (fun c37 => ?_) (fun c37 => ?_)
        · have b38 : iv 1 5 (y30 8) := iv_neLo c37 (hq31 8 : iv 0 5 (y30 8)) ivk_0 (by decide) (by decide)
          have hrr39 : RRd tT nN y30 (iteT (lnkB tT nN sS (q_told 4) (q_told 5) (shT 20 q_from) ≤ lnkA tT nN sS ∨ hasT (shT 20 q_from) (shT 20 q_to) (q_told 5) (lnkA tT nN sS) (lnkB tT nN sS (q_told 4) (q_told 5) (shT 20 q_from))) (failT 5 (lnk3 tT nN sS (q_told 4) (q_told 5) (shT 20 q_from))) (lnk3 tT nN sS (q_told 4) (q_told 5) (shT 20 q_from))) := ite_r hq34 c37 ▸ hq34
          refine lv_aload_n hx hb dX11_readLink_96 rfl (lv_at hl 2 rfl) ?_
          refine va_get (D := (dC, dI)) (ci := 11) (v := .int (y30 8)) (C := RX11) (T := TX11) (N := 61) hx hb hts hin11 hown hK hP 3 rfl rfl 22 (Nat.le_of_ble_eq_true rfl) hw_1 (fun _ h9 => h9) rfl dX11_readLink_97 ?_
          refine lv_if_eq (tgt := 104) hx hb dX11_readLink_100 rfl (fun c9 => absurd c9 (c37)) (fun _ => ?_)
          have hPD9 := cl_s (wc := [(m0, .inr (11, oX11 ra y30)), (ra 2, .inl (kI, 8, .inl q_told)), (ra 8, .inl (kI, 40, .inl q_from)), (ra 9, .inl (kI, 40, .inl q_to)), (ra 13, .inl (kI, 700, .inl q_tape))]) hP hD [3, 4, 0, 1, 2] rfl (by decide +kernel)
          have hP9 := hPD9.1
          have hD9 := hPD9.2
          exact W.vret hx hb hr (fun t ht hW => ⟨⟨(), rfl, trivial, y30, q_told, q_from, q_to, hq31, hq_told, hq_from, hq_to, (show (x0 2).toInt ≤ (y30 2).toInt from by omega), (show y30 3 = x0 3 from hq33.trans (hq20.trans (hq10))), (show ∀ j : Nat, (j : Int) < (q_told 1).toInt → (q_from j).toInt < (q_to j).toInt from hLT), (show ∀ j : Nat, (j : Int) < (q_told 5).toInt → (q_from (20 + j)).toInt < (q_to (20 + j)).toInt from hLD), (show RRd tT nN y30 (lnkS tT nN sS (q_told 4) (q_told 5) (shT 20 q_from) (shT 20 q_to)) from it_f (Q := RRd tT nN y30) c1 ((rr_stepN hrr39 c37))), (show y30 8 = 0 → q_told = upd q_told 5 (q_told 5 + 1) ∧ q_from = upd q_from ((20 + (q_told 5)).toNatClampNeg) (lnkA tT nN sS) ∧ q_to = upd q_to ((20 + (q_told 5)).toNatClampNeg) (lnkB tT nN sS (q_told 4) (q_told 5) (shT 20 q_from)) from fun w => absurd w c37), (show LowT q_told q_from q_to q_told q_from q_to from low_0), (show y30 1 = x0 1 from hq35.trans (hq22.trans (hq13))), (show y30 10 = x0 10 from hq36.trans (hq23.trans (hq14))), by rw [ht]; exact hP9, hD9⟩, hS.F ht⟩) hS.2.2 dX11_readLink_103
        · have b40 : iv 0 0 (y30 8) := iv_eqL c37 ivk_0
          refine lv_iload_n hx hb dX11_readLink_77 rfl (lv_at hl 0 rfl) ?_
          refine lv_iload_n hx hb dX11_readLink_78 rfl (lv_at hl 1 rfl) ?_
          refine lv_icmp_le (tgt := 91) hx hb dX11_readLink_79 rfl (fun c41 => ?_) (fun c41 => ?_)
          · refine lv_aload_n hx hb dX11_readLink_91 rfl (lv_at hl 2 rfl) ?_
            refine lv_iconst (v := 5) hx hb dX11_readLink_92 ic_5 ?_
            obtain ⟨hPc, hDc, hFc, hJn⟩ := cl_a (wc := [(m0, .inr (11, oX11 ra y30))]) (wr := [(ra 8, .inl (kI, 40, .inl q_from)), (ra 9, .inl (kI, 40, .inl q_to)), (ra 13, .inl (kI, 700, .inl q_tape)), (ra 2, .inl (kI, 8, .inl q_told))]) hP hD hS hA [3] [0, 1, 2, 4] rfl rfl (by decide +kernel)
            refine va_callv (va_runV (As := [.int 5]) (rest := []) ⟨hx, hb, hml, hown, hts⟩ (s11_wrong l dC dI kB kI kJ kZ kC kS H.size m0 ra y30 5 tT nN (rouT tT (q_told 4) (lnk2 tT nN sS (q_told 4) (q_told 5) (shT 20 q_from))) (hq31) ((iv_w ivk_5 (by decide) (by decide))) (hq34)) (cwV 1 hts gX11_readLink_X11_wrong rfl rfl rfl (by decide +kernel) ⟨Nat.le_of_ble_eq_true rfl, Nat.le_of_ble_eq_true rfl⟩) ⟨fun a U g mk q => by obtain ⟨q0, q1, qP, qE, qD⟩ := q; exact ⟨q0, q1, qP, kE_call qE, qD⟩, va_recv hK hP (ci := 11) (q0 := 3) rfl rfl, fun U hU hW => ⟨rfl, by rw [hU], by rw [hU]; exact hPc, kE_warm hW hE, hDc.weaken (fun _ _ _ _ => trivial)⟩⟩ rfl rfl hl.1 rfl (lv_room (Nat.le_of_ble_eq_true rfl)) dX11_readLink_93 ⟨Nat.le_of_ble_eq_true rfl, Nat.le_of_ble_eq_true rfl⟩) hS (fun q _ h => hFc q h) hFc (fun u t H locs ht hvm w43 hB hz1 hk1 hS => ?_)
            obtain ⟨y44, hq45, hq46, hq47, hq48, hq49, hq50, hq51, hP1, hD1⟩ := hB
            try dsimp only at w43
            obtain ⟨hPa, hDa⟩ := hJn (w1 := [(m0, .inr (11, oX11 ra y44))]) hk1 ht hP1 hD1
            clear hP hD hPc hDc hFc hJn hP1 hD1 hk1
            have hP : va_P (dC, dI) vwCl [(ra 8, .inl (kI, 40, .inl q_from)), (ra 9, .inl (kI, 40, .inl q_to)), (ra 13, .inl (kI, 700, .inl q_tape)), (ra 2, .inl (kI, 8, .inl q_told)), (m0, .inr (11, oX11 ra y44))] H := hPa
            have hD : va_D A [(ra 8, .inl (kI, 40, .inl q_from)), (ra 9, .inl (kI, 40, .inl q_to)), (ra 13, .inl (kI, 700, .inl q_tape)), (ra 2, .inl (kI, 8, .inl q_told)), (m0, .inr (11, oX11 ra y44))] := hDa
            clear hPa hDa
            refine W.widen (k := 0) (n := 0) (Nat.le_of_ble_eq_true rfl) (Nat.le_of_ble_eq_true rfl) ?_
            have hok9 := rr_ok hq34 c37
            have hb9 := hv8 hok9
            have ha9 := hv9 (ok_ite (ok_next (ok_num (ok_rou hok9)))).1
            have hrr52 : RRd tT nN y44 (iteT (lnkB tT nN sS (q_told 4) (q_told 5) (shT 20 q_from) ≤ lnkA tT nN sS ∨ hasT (shT 20 q_from) (shT 20 q_to) (q_told 5) (lnkA tT nN sS) (lnkB tT nN sS (q_told 4) (q_told 5) (shT 20 q_from))) (failT 5 (lnk3 tT nN sS (q_told 4) (q_told 5) (shT 20 q_from))) (lnk3 tT nN sS (q_told 4) (q_told 5) (shT 20 q_from))) := it_t (Q := RRd tT nN y44) (Or.inl (by have q := c41; rw [ha9, hb9] at q; exact q)) (hq49)
            refine lv_aload_n hx hb dX11_readLink_96 rfl (lv_at hl 2 rfl) ?_
            refine va_get (D := (dC, dI)) (ci := 11) (v := .int (y44 8)) (C := RX11) (T := TX11) (N := 61) hx hb hts hin11 hown hK hP 4 rfl rfl 22 (Nat.le_of_ble_eq_true rfl) hw_1 (fun _ h9 => h9) rfl dX11_readLink_97 ?_
            refine lv_if_eq (tgt := 104) hx hb dX11_readLink_100 rfl (fun c9 => absurd c9 (iv_ne hq46 ivk_0 (by decide))) (fun _ => ?_)
            have hPD9 := cl_s (wc := [(m0, .inr (11, oX11 ra y44)), (ra 2, .inl (kI, 8, .inl q_told)), (ra 8, .inl (kI, 40, .inl q_from)), (ra 9, .inl (kI, 40, .inl q_to)), (ra 13, .inl (kI, 700, .inl q_tape))]) hP hD [4, 3, 0, 1, 2] rfl (by decide +kernel)
            have hP9 := hPD9.1
            have hD9 := hPD9.2
            exact W.vret hx hb hr (fun t ht hW => ⟨⟨(), rfl, trivial, y44, q_told, q_from, q_to, hq45, hq_told, hq_from, hq_to, (show (x0 2).toInt ≤ (y44 2).toInt from by omega), (show y44 3 = x0 3 from hq48.trans (hq33.trans (hq20.trans (hq10)))), (show ∀ j : Nat, (j : Int) < (q_told 1).toInt → (q_from j).toInt < (q_to j).toInt from hLT), (show ∀ j : Nat, (j : Int) < (q_told 5).toInt → (q_from (20 + j)).toInt < (q_to (20 + j)).toInt from hLD), (show RRd tT nN y44 (lnkS tT nN sS (q_told 4) (q_told 5) (shT 20 q_from) (shT 20 q_to)) from it_f (Q := RRd tT nN y44) c1 ((rr_stepN hrr52 (iv_ne hq46 ivk_0 (by decide))))), (show y44 8 = 0 → q_told = upd q_told 5 (q_told 5 + 1) ∧ q_from = upd q_from ((20 + (q_told 5)).toNatClampNeg) (lnkA tT nN sS) ∧ q_to = upd q_to ((20 + (q_told 5)).toNatClampNeg) (lnkB tT nN sS (q_told 4) (q_told 5) (shT 20 q_from)) from fun w => absurd w (iv_ne hq46 ivk_0 (by decide))), (show LowT q_told q_from q_to q_told q_from q_to from low_0), (show y44 1 = x0 1 from hq50.trans (hq35.trans (hq22.trans (hq13)))), (show y44 10 = x0 10 from hq51.trans (hq36.trans (hq23.trans (hq14)))), by rw [ht]; exact hP9, hD9⟩, hS.F ht⟩) hS.2.2 dX11_readLink_103
          · have b53 : iv 0 10 r15 := iv_ltL (Int32.not_le.mp c41) w16.1 w29.1 (by decide) (by decide)
            have b54 : iv 1 11 r28 := iv_ltR (Int32.not_le.mp c41) w16.1 w29.1 (by decide) (by decide)
            refine lv_aload_n hx hb dX11_readLink_82 rfl (lv_at hl 2 rfl) ?_
            refine lv_iload_n hx hb dX11_readLink_83 rfl (lv_at hl 1 rfl) ?_
            refine lv_iload_n hx hb dX11_readLink_84 rfl (lv_at hl 0 rfl) ?_
            obtain ⟨hPc, hDc, hFc, hJn⟩ := cl_a (wc := [(m0, .inr (11, oX11 ra y30)), (ra 2, .inl (kI, 8, .inl q_told)), (ra 8, .inl (kI, 40, .inl q_from)), (ra 9, .inl (kI, 40, .inl q_to))]) (wr := [(ra 13, .inl (kI, 700, .inl q_tape))]) hP hD hS hA [3, 4, 0, 1] [2] rfl rfl (by decide +kernel)
            refine va_calli (va_runV (As := [.int r15, .int r28]) (rest := []) ⟨hx, hb, hml, hown, hts⟩ (s11_hasLink l dC dI kB kI kJ kZ kC kS H.size m0 ra y30 q_told q_from q_to r15 r28 (hq31) (hq_told) (hq_from) (hq_to)) (cwV 2 hts gX11_readLink_X11_hasLink rfl rfl rfl (by decide +kernel) ⟨Nat.le_of_ble_eq_true rfl, Nat.le_of_ble_eq_true rfl⟩) ⟨fun a U g mk q => by obtain ⟨q0, q1, qP, qE, qD⟩ := q; exact ⟨q0, q1, qP, kE_call qE, qD⟩, va_recv hK hP (ci := 11) (q0 := 3) rfl rfl, fun U hU hW => ⟨rfl, by rw [hU], by rw [hU]; exact hPc, kE_warm hW hE, hDc.weaken (fun _ _ _ _ => trivial)⟩⟩ rfl rfl hl.1 rfl (lv_room (Nat.le_of_ble_eq_true rfl)) dX11_readLink_85 ⟨Nat.le_of_ble_eq_true rfl, Nat.le_of_ble_eq_true rfl⟩) hS (fun q _ h => hFc q h) hFc (fun r55 u t H locs ht hvm w56 hB hz1 hk1 hS => ?_)
            obtain ⟨hP1, hD1⟩ := hB
            try dsimp only at w56
            obtain ⟨hPa, hDa⟩ := hJn (w1 := [(m0, .inr (11, oX11 ra y30)), (ra 2, .inl (kI, 8, .inl q_told)), (ra 8, .inl (kI, 40, .inl q_from)), (ra 9, .inl (kI, 40, .inl q_to))]) hk1 ht hP1 hD1
            clear hP hD hPc hDc hFc hJn hP1 hD1 hk1
            have hP : va_P (dC, dI) vwCl [(ra 13, .inl (kI, 700, .inl q_tape)), (m0, .inr (11, oX11 ra y30)), (ra 2, .inl (kI, 8, .inl q_told)), (ra 8, .inl (kI, 40, .inl q_from)), (ra 9, .inl (kI, 40, .inl q_to))] H := hPa
            have hD : va_D A [(ra 13, .inl (kI, 700, .inl q_tape)), (m0, .inr (11, oX11 ra y30)), (ra 2, .inl (kI, 8, .inl q_told)), (ra 8, .inl (kI, 40, .inl q_from)), (ra 9, .inl (kI, 40, .inl q_to))] := hDa
            clear hPa hDa
            refine W.widen (k := 0) (n := 0) (Nat.le_of_ble_eq_true rfl) (Nat.le_of_ble_eq_true rfl) ?_
            have hh9 := w56.2
            refine lv_if_eq (tgt := 96) hx hb dX11_readLink_88 rfl (fun c57 => ?_) (fun c57 => ?_)
            · have b58 : iv 0 0 r55 := iv_eqL c57 ivk_0
              have hok9 := rr_ok hq34 c37
              have hb9 := hv8 hok9
              have ha9 := hv9 (ok_ite (ok_next (ok_num (ok_rou hok9)))).1
              have hrr59 : RRd tT nN y30 (iteT (lnkB tT nN sS (q_told 4) (q_told 5) (shT 20 q_from) ≤ lnkA tT nN sS ∨ hasT (shT 20 q_from) (shT 20 q_to) (q_told 5) (lnkA tT nN sS) (lnkB tT nN sS (q_told 4) (q_told 5) (shT 20 q_from))) (failT 5 (lnk3 tT nN sS (q_told 4) (q_told 5) (shT 20 q_from))) (lnk3 tT nN sS (q_told 4) (q_told 5) (shT 20 q_from))) := it_f (Q := RRd tT nN y30) (by have q := (hh9.resolve_right (fun w => w.1 c57)).2; have q2 := Int32.not_le.mpr (Int32.not_le.mp c41); rw [ha9, hb9] at q q2; exact fun w => w.elim q2 q) (hq34)
              refine lv_aload_n hx hb dX11_readLink_96 rfl (lv_at hl 2 rfl) ?_
              refine va_get (D := (dC, dI)) (ci := 11) (v := .int (y30 8)) (C := RX11) (T := TX11) (N := 61) hx hb hts hin11 hown hK hP 1 rfl rfl 22 (Nat.le_of_ble_eq_true rfl) hw_1 (fun _ h9 => h9) rfl dX11_readLink_97 ?_
              refine lv_if_eq (tgt := 104) hx hb dX11_readLink_100 rfl (fun _ => ?_) (fun c9 => absurd (c37) c9)
              refine lv_aload_n hx hb dX11_readLink_104 rfl (lv_at hl 2 rfl) ?_
              obtain ⟨hPc, hDc, hFc, hJn⟩ := cl_a (wc := [(m0, .inr (11, oX11 ra y30)), (ra 13, .inl (kI, 700, .inl q_tape))]) (wr := [(ra 2, .inl (kI, 8, .inl q_told)), (ra 8, .inl (kI, 40, .inl q_from)), (ra 9, .inl (kI, 40, .inl q_to))]) hP hD hS hA [1, 0] [2, 3, 4] rfl rfl (by decide +kernel)
              refine va_callv (va_runV (As := []) (rest := []) ⟨hx, hb, hml, hown, hts⟩ (s11_stepOn l dC dI kB kI kJ kZ kC kS H.size m0 ra y30 q_tape tT nN (nextT tT nN (iteT (lnkB tT nN sS (q_told 4) (q_told 5) (shT 20 q_from) ≤ lnkA tT nN sS ∨ hasT (shT 20 q_from) (shT 20 q_to) (q_told 5) (lnkA tT nN sS) (lnkB tT nN sS (q_told 4) (q_told 5) (shT 20 q_from))) (failT 5 (lnk3 tT nN sS (q_told 4) (q_told 5) (shT 20 q_from))) (lnk3 tT nN sS (q_told 4) (q_told 5) (shT 20 q_from)))) (hq31) (hq_tape) (hrr59.2) (stp_of hrr59) (hTQ)) (cwV 0 hts gX11_readLink_X11_stepOn rfl rfl rfl (by decide +kernel) ⟨Nat.le_of_ble_eq_true rfl, Nat.le_of_ble_eq_true rfl⟩) ⟨fun a U g mk q => by obtain ⟨q0, q1, qP, qE, qD⟩ := q; exact ⟨q0, q1, qP, kE_call qE, qD⟩, va_recv hK hP (ci := 11) (q0 := 1) rfl rfl, fun U hU hW => ⟨rfl, by rw [hU], by rw [hU]; exact hPc, kE_warm hW hE, hDc.weaken (fun _ _ _ _ => trivial)⟩⟩ rfl rfl hl.1 rfl (lv_room (Nat.le_of_ble_eq_true rfl)) dX11_readLink_105 ⟨Nat.le_of_ble_eq_true rfl, Nat.le_of_ble_eq_true rfl⟩) hS (fun q _ h => hFc q h) hFc (fun u t H locs ht hvm w61 hB hz1 hk1 hS => ?_)
              obtain ⟨y62, hq63, hq64, hq65, hq66, hq67, hq68, hq69, hP1, hD1⟩ := hB
              try dsimp only at w61
              obtain ⟨hPa, hDa⟩ := hJn (w1 := [(m0, .inr (11, oX11 ra y62)), (ra 13, .inl (kI, 700, .inl q_tape))]) hk1 ht hP1 hD1
              clear hP hD hPc hDc hFc hJn hP1 hD1 hk1
              have hP : va_P (dC, dI) vwCl [(ra 2, .inl (kI, 8, .inl q_told)), (ra 8, .inl (kI, 40, .inl q_from)), (ra 9, .inl (kI, 40, .inl q_to)), (m0, .inr (11, oX11 ra y62)), (ra 13, .inl (kI, 700, .inl q_tape))] H := hPa
              have hD : va_D A [(ra 2, .inl (kI, 8, .inl q_told)), (ra 8, .inl (kI, 40, .inl q_from)), (ra 9, .inl (kI, 40, .inl q_to)), (m0, .inr (11, oX11 ra y62)), (ra 13, .inl (kI, 700, .inl q_tape))] := hDa
              clear hPa hDa
              refine W.widen (k := 0) (n := 0) (Nat.le_of_ble_eq_true rfl) (Nat.le_of_ble_eq_true rfl) ?_
              refine lv_aload_n hx hb dX11_readLink_108 rfl (lv_at hl 2 rfl) ?_
              refine va_get (D := (dC, dI)) (ci := 11) (v := .ref (ra 8)) (C := RX11) (T := TX11) (N := 61) hx hb hts hin11 hown hK hP 3 rfl rfl 9 (Nat.le_of_ble_eq_true rfl) hw_2 (fun _ h9 => h9) rfl dX11_readLink_109 ?_
              refine lv_bipush (v := 20) hx hb dX11_readLink_112 bp_20 ?_
              refine lv_aload_n hx hb dX11_readLink_114 rfl (lv_at hl 2 rfl) ?_
              refine va_get (D := (dC, dI)) (ci := 11) (v := .ref (ra 2)) (C := RX11) (T := TX11) (N := 61) hx hb hts hin11 hown hK hP 3 rfl rfl 3 (Nat.le_of_ble_eq_true rfl) hw_0 (fun _ h9 => h9) rfl dX11_readLink_115 ?_
              refine lv_iconst (v := 5) hx hb dX11_readLink_118 ic_5 ?_
              refine va_iald hx hb hK hP 0 1 rfl rfl (vp_in_nI (n := 5) (by decide) (by decide)) dX11_readLink_119 ?_
              refine W.eq (g2 := F0 m 120 ls [.int (q_told 5), .int 20, .ref (ra 8)]) rfl ?_
              refine lv_iadd hx hb dX11_readLink_120 ?_
              have b70 : iv 20 39 (20 + (q_told 5)) := iv_add ivk_20 b2 (by decide) (by decide) (by decide) (by decide)
              refine lv_iload_n hx hb dX11_readLink_121 rfl (lv_at hl 1 rfl) ?_
              refine va_iast hx hb hK hP hD hS 1 1 rfl rfl (iv_in b70 (by decide) (by decide)) dX11_readLink_122 (fun H locs hPa hDa hS => ?_)
              clear hP hD
              have hP : va_P (dC, dI) vwCl [(ra 2, .inl (kI, 8, .inl q_told)), (ra 8, .inl (kI, 40, .inl (upd q_from (20 + (q_told 5)).toNatClampNeg r15))), (ra 9, .inl (kI, 40, .inl q_to)), (m0, .inr (11, oX11 ra y62)), (ra 13, .inl (kI, 700, .inl q_tape))] H := hPa
              have hD : va_D A [(ra 2, .inl (kI, 8, .inl q_told)), (ra 8, .inl (kI, 40, .inl (upd q_from (20 + (q_told 5)).toNatClampNeg r15))), (ra 9, .inl (kI, 40, .inl q_to)), (m0, .inr (11, oX11 ra y62)), (ra 13, .inl (kI, 700, .inl q_tape))] := hDa
              clear hPa hDa
              refine lv_aload_n hx hb dX11_readLink_123 rfl (lv_at hl 2 rfl) ?_
              refine va_get (D := (dC, dI)) (ci := 11) (v := .ref (ra 9)) (C := RX11) (T := TX11) (N := 61) hx hb hts hin11 hown hK hP 3 rfl rfl 10 (Nat.le_of_ble_eq_true rfl) hw_3 (fun _ h9 => h9) rfl dX11_readLink_124 ?_
              refine lv_bipush (v := 20) hx hb dX11_readLink_127 bp_20 ?_
              refine lv_aload_n hx hb dX11_readLink_129 rfl (lv_at hl 2 rfl) ?_
              refine va_get (D := (dC, dI)) (ci := 11) (v := .ref (ra 2)) (C := RX11) (T := TX11) (N := 61) hx hb hts hin11 hown hK hP 3 rfl rfl 3 (Nat.le_of_ble_eq_true rfl) hw_0 (fun _ h9 => h9) rfl dX11_readLink_130 ?_
              refine lv_iconst (v := 5) hx hb dX11_readLink_133 ic_5 ?_
              refine va_iald hx hb hK hP 0 1 rfl rfl (vp_in_nI (n := 5) (by decide) (by decide)) dX11_readLink_134 ?_
              refine W.eq (g2 := F0 m 135 ls [.int (q_told 5), .int 20, .ref (ra 9)]) rfl ?_
              refine lv_iadd hx hb dX11_readLink_135 ?_
              have b71 : iv 20 39 (20 + (q_told 5)) := iv_add ivk_20 b2 (by decide) (by decide) (by decide) (by decide)
              refine lv_iload_n hx hb dX11_readLink_136 rfl (lv_at hl 0 rfl) ?_
              refine va_iast hx hb hK hP hD hS 2 1 rfl rfl (iv_in b71 (by decide) (by decide)) dX11_readLink_137 (fun H locs hPa hDa hS => ?_)
              clear hP hD
              have hP : va_P (dC, dI) vwCl [(ra 2, .inl (kI, 8, .inl q_told)), (ra 8, .inl (kI, 40, .inl (upd q_from (20 + (q_told 5)).toNatClampNeg r15))), (ra 9, .inl (kI, 40, .inl (upd q_to (20 + (q_told 5)).toNatClampNeg r28))), (m0, .inr (11, oX11 ra y62)), (ra 13, .inl (kI, 700, .inl q_tape))] H := hPa
              have hD : va_D A [(ra 2, .inl (kI, 8, .inl q_told)), (ra 8, .inl (kI, 40, .inl (upd q_from (20 + (q_told 5)).toNatClampNeg r15))), (ra 9, .inl (kI, 40, .inl (upd q_to (20 + (q_told 5)).toNatClampNeg r28))), (m0, .inr (11, oX11 ra y62)), (ra 13, .inl (kI, 700, .inl q_tape))] := hDa
              clear hPa hDa
              refine lv_aload_n hx hb dX11_readLink_138 rfl (lv_at hl 2 rfl) ?_
              refine va_get (D := (dC, dI)) (ci := 11) (v := .ref (ra 2)) (C := RX11) (T := TX11) (N := 61) hx hb hts hin11 hown hK hP 3 rfl rfl 3 (Nat.le_of_ble_eq_true rfl) hw_0 (fun _ h9 => h9) rfl dX11_readLink_139 ?_
              refine lv_iconst (v := 5) hx hb dX11_readLink_142 ic_5 ?_
              refine lv_dup2_11 hx hb dX11_readLink_143 rfl rfl ?_
              refine va_iald hx hb hK hP 0 1 rfl rfl (vp_in_nI (n := 5) (by decide) (by decide)) dX11_readLink_144 ?_
              refine W.eq (g2 := F0 m 145 ls [.int (q_told 5), .int 5, .ref (ra 2)]) rfl ?_
              refine lv_iconst (v := 1) hx hb dX11_readLink_145 ic_1 ?_
              refine lv_iadd hx hb dX11_readLink_146 ?_
              have b72 : iv 1 20 ((q_told 5) + 1) := iv_add b2 ivk_1 (by decide) (by decide) (by decide) (by decide)
              refine va_iast hx hb hK hP hD hS 0 1 rfl rfl (vp_in_nI (n := 5) (by decide) (by decide)) dX11_readLink_147 (fun H locs hPa hDa hS => ?_)
              clear hP hD
              have hP : va_P (dC, dI) vwCl [(ra 2, .inl (kI, 8, .inl (upd q_told 5 ((q_told 5) + 1)))), (ra 8, .inl (kI, 40, .inl (upd q_from (20 + (q_told 5)).toNatClampNeg r15))), (ra 9, .inl (kI, 40, .inl (upd q_to (20 + (q_told 5)).toNatClampNeg r28))), (m0, .inr (11, oX11 ra y62)), (ra 13, .inl (kI, 700, .inl q_tape))] H := hPa
              have hD : va_D A [(ra 2, .inl (kI, 8, .inl (upd q_told 5 ((q_told 5) + 1)))), (ra 8, .inl (kI, 40, .inl (upd q_from (20 + (q_told 5)).toNatClampNeg r15))), (ra 9, .inl (kI, 40, .inl (upd q_to (20 + (q_told 5)).toNatClampNeg r28))), (m0, .inr (11, oX11 ra y62)), (ra 13, .inl (kI, 700, .inl q_tape))] := hDa
              clear hPa hDa
              have hPD9 := cl_s (wc := [(m0, .inr (11, oX11 ra y62)), (ra 2, .inl (kI, 8, .inl (upd q_told 5 ((q_told 5) + 1)))), (ra 8, .inl (kI, 40, .inl (upd q_from (20 + (q_told 5)).toNatClampNeg r15))), (ra 9, .inl (kI, 40, .inl (upd q_to (20 + (q_told 5)).toNatClampNeg r28))), (ra 13, .inl (kI, 700, .inl q_tape))]) hP hD [3, 0, 1, 2, 4] rfl (by decide +kernel)
              have hP9 := hPD9.1
              have hD9 := hPD9.2
              exact W.vret hx hb hr (fun t ht hW => ⟨⟨(), rfl, trivial, y62, upd q_told 5 ((q_told 5) + 1), upd q_from (20 + (q_told 5)).toNatClampNeg r15, upd q_to (20 + (q_told 5)).toNatClampNeg r28, hq63, (fI_u hq_told (k := 5) ((iv_w b72 (by decide) (by decide)))), (fI_u hq_from (k := (20 + (q_told 5)).toNatClampNeg) ((iv_w b53 (by decide) (by decide)))), (fI_u hq_to (k := (20 + (q_told 5)).toNatClampNeg) ((iv_w b54 (by decide) (by decide)))), (show (x0 2).toInt ≤ (y62 2).toInt from by omega), (show y62 3 = x0 3 from hq65.trans (hq33.trans (hq20.trans (hq10)))), lk_lt hLT (hq_told 1) (hq_told 5), lk_ld hLD b2 (Int32.not_le.mp c41), (show RRd tT nN y62 (lnkS tT nN sS (q_told 4) (q_told 5) (shT 20 q_from) (shT 20 q_to)) from it_f (Q := RRd tT nN y62) c1 (hq67)), fun _ => ⟨rfl, congrArg (upd q_from ((20 + (q_told 5)).toNatClampNeg)) (hv9 (ok_ite (ok_next (ok_num (ok_rou (ok_ite (rr_ok hrr59 c37)).1)))).1), congrArg (upd q_to ((20 + (q_told 5)).toNatClampNeg)) (hv8 (ok_ite (rr_ok hrr59 c37)).1)⟩, low_l (by decide) (iv_w b2 (by decide) (by decide)), (show y62 1 = x0 1 from hq68.trans (hq35.trans (hq22.trans (hq13)))), (show y62 10 = x0 10 from hq69.trans (hq36.trans (hq23.trans (hq14)))), by rw [ht]; exact hP9, hD9⟩, hS.F ht⟩) hS.2.2 dX11_readLink_148
            · have b73 : iv 1 1 r55 := iv_neLo c57 w56.1 ivk_0 (by decide) (by decide)
              refine lv_aload_n hx hb dX11_readLink_91 rfl (lv_at hl 2 rfl) ?_
              refine lv_iconst (v := 5) hx hb dX11_readLink_92 ic_5 ?_
              obtain ⟨hPc, hDc, hFc, hJn⟩ := cl_a (wc := [(m0, .inr (11, oX11 ra y30))]) (wr := [(ra 13, .inl (kI, 700, .inl q_tape)), (ra 2, .inl (kI, 8, .inl q_told)), (ra 8, .inl (kI, 40, .inl q_from)), (ra 9, .inl (kI, 40, .inl q_to))]) hP hD hS hA [1] [0, 2, 3, 4] rfl rfl (by decide +kernel)
              refine va_callv (va_runV (As := [.int 5]) (rest := []) ⟨hx, hb, hml, hown, hts⟩ (s11_wrong l dC dI kB kI kJ kZ kC kS H.size m0 ra y30 5 tT nN (rouT tT (q_told 4) (lnk2 tT nN sS (q_told 4) (q_told 5) (shT 20 q_from))) (hq31) ((iv_w ivk_5 (by decide) (by decide))) (hq34)) (cwV 1 hts gX11_readLink_X11_wrong rfl rfl rfl (by decide +kernel) ⟨Nat.le_of_ble_eq_true rfl, Nat.le_of_ble_eq_true rfl⟩) ⟨fun a U g mk q => by obtain ⟨q0, q1, qP, qE, qD⟩ := q; exact ⟨q0, q1, qP, kE_call qE, qD⟩, va_recv hK hP (ci := 11) (q0 := 1) rfl rfl, fun U hU hW => ⟨rfl, by rw [hU], by rw [hU]; exact hPc, kE_warm hW hE, hDc.weaken (fun _ _ _ _ => trivial)⟩⟩ rfl rfl hl.1 rfl (lv_room (Nat.le_of_ble_eq_true rfl)) dX11_readLink_93 ⟨Nat.le_of_ble_eq_true rfl, Nat.le_of_ble_eq_true rfl⟩) hS (fun q _ h => hFc q h) hFc (fun u t H locs ht hvm w75 hB hz1 hk1 hS => ?_)
              obtain ⟨y76, hq77, hq78, hq79, hq80, hq81, hq82, hq83, hP1, hD1⟩ := hB
              try dsimp only at w75
              obtain ⟨hPa, hDa⟩ := hJn (w1 := [(m0, .inr (11, oX11 ra y76))]) hk1 ht hP1 hD1
              clear hP hD hPc hDc hFc hJn hP1 hD1 hk1
              have hP : va_P (dC, dI) vwCl [(ra 13, .inl (kI, 700, .inl q_tape)), (ra 2, .inl (kI, 8, .inl q_told)), (ra 8, .inl (kI, 40, .inl q_from)), (ra 9, .inl (kI, 40, .inl q_to)), (m0, .inr (11, oX11 ra y76))] H := hPa
              have hD : va_D A [(ra 13, .inl (kI, 700, .inl q_tape)), (ra 2, .inl (kI, 8, .inl q_told)), (ra 8, .inl (kI, 40, .inl q_from)), (ra 9, .inl (kI, 40, .inl q_to)), (m0, .inr (11, oX11 ra y76))] := hDa
              clear hPa hDa
              refine W.widen (k := 0) (n := 0) (Nat.le_of_ble_eq_true rfl) (Nat.le_of_ble_eq_true rfl) ?_
              have hok9 := rr_ok hq34 c37
              have hb9 := hv8 hok9
              have ha9 := hv9 (ok_ite (ok_next (ok_num (ok_rou hok9)))).1
              have hrr84 : RRd tT nN y76 (iteT (lnkB tT nN sS (q_told 4) (q_told 5) (shT 20 q_from) ≤ lnkA tT nN sS ∨ hasT (shT 20 q_from) (shT 20 q_to) (q_told 5) (lnkA tT nN sS) (lnkB tT nN sS (q_told 4) (q_told 5) (shT 20 q_from))) (failT 5 (lnk3 tT nN sS (q_told 4) (q_told 5) (shT 20 q_from))) (lnk3 tT nN sS (q_told 4) (q_told 5) (shT 20 q_from))) := it_t (Q := RRd tT nN y76) (Or.inr (by have q := (hh9.resolve_left (fun w => c57 w.1)).2; rw [ha9, hb9] at q; exact q)) (hq81)
              refine lv_aload_n hx hb dX11_readLink_96 rfl (lv_at hl 2 rfl) ?_
              refine va_get (D := (dC, dI)) (ci := 11) (v := .int (y76 8)) (C := RX11) (T := TX11) (N := 61) hx hb hts hin11 hown hK hP 4 rfl rfl 22 (Nat.le_of_ble_eq_true rfl) hw_1 (fun _ h9 => h9) rfl dX11_readLink_97 ?_
              refine lv_if_eq (tgt := 104) hx hb dX11_readLink_100 rfl (fun c9 => absurd c9 (iv_ne hq78 ivk_0 (by decide))) (fun _ => ?_)
              have hPD9 := cl_s (wc := [(m0, .inr (11, oX11 ra y76)), (ra 2, .inl (kI, 8, .inl q_told)), (ra 8, .inl (kI, 40, .inl q_from)), (ra 9, .inl (kI, 40, .inl q_to)), (ra 13, .inl (kI, 700, .inl q_tape))]) hP hD [4, 1, 2, 3, 0] rfl (by decide +kernel)
              have hP9 := hPD9.1
              have hD9 := hPD9.2
              exact W.vret hx hb hr (fun t ht hW => ⟨⟨(), rfl, trivial, y76, q_told, q_from, q_to, hq77, hq_told, hq_from, hq_to, (show (x0 2).toInt ≤ (y76 2).toInt from by omega), (show y76 3 = x0 3 from hq80.trans (hq33.trans (hq20.trans (hq10)))), (show ∀ j : Nat, (j : Int) < (q_told 1).toInt → (q_from j).toInt < (q_to j).toInt from hLT), (show ∀ j : Nat, (j : Int) < (q_told 5).toInt → (q_from (20 + j)).toInt < (q_to (20 + j)).toInt from hLD), (show RRd tT nN y76 (lnkS tT nN sS (q_told 4) (q_told 5) (shT 20 q_from) (shT 20 q_to)) from it_f (Q := RRd tT nN y76) c1 ((rr_stepN hrr84 (iv_ne hq78 ivk_0 (by decide))))), (show y76 8 = 0 → q_told = upd q_told 5 (q_told 5 + 1) ∧ q_from = upd q_from ((20 + (q_told 5)).toNatClampNeg) (lnkA tT nN sS) ∧ q_to = upd q_to ((20 + (q_told 5)).toNatClampNeg) (lnkB tT nN sS (q_told 4) (q_told 5) (shT 20 q_from)) from fun w => absurd w (iv_ne hq78 ivk_0 (by decide))), (show LowT q_told q_from q_to q_told q_from q_to from low_0), (show y76 1 = x0 1 from hq82.trans (hq35.trans (hq22.trans (hq13)))), (show y76 10 = x0 10 from hq83.trans (hq36.trans (hq23.trans (hq14)))), by rw [ht]; exact hP9, hD9⟩, hS.F ht⟩) hS.2.2 dX11_readLink_103
      · have b85 : iv 0 0 (y17 8) := iv_eqL c24 ivk_0
        refine lv_aload_n hx hb dX11_readLink_40 rfl (lv_at hl 1 rfl) ?_
        refine lv_iload_n hx hb dX11_readLink_41 rfl (lv_at hl 0 rfl) ?_
        obtain ⟨hPc, hDc, hFc, hJn⟩ := cl_a (wc := [(m0, .inr (11, oX11 ra y17)), (ra 2, .inl (kI, 8, .inl q_told)), (ra 8, .inl (kI, 40, .inl q_from))]) (wr := [(ra 9, .inl (kI, 40, .inl q_to)), (ra 13, .inl (kI, 700, .inl q_tape))]) hP hD hS hA [3, 4, 0] [1, 2] rfl rfl (by decide +kernel)
        refine va_calli (va_runV (As := [.int r15]) (rest := []) ⟨hx, hb, hml, hown, hts⟩ (s11_linksFrom l dC dI kB kI kJ kZ kC kS H.size m0 ra y17 q_told q_from r15 (hq18) (hq_told) (hq_from)) (cwV 1 hts gX11_readLink_X11_linksFrom rfl rfl rfl (by decide +kernel) ⟨Nat.le_of_ble_eq_true rfl, Nat.le_of_ble_eq_true rfl⟩) ⟨fun a U g mk q => by obtain ⟨q0, q1, qP, qE, qD⟩ := q; exact ⟨q0, q1, qP, kE_call qE, qD⟩, va_recv hK hP (ci := 11) (q0 := 3) rfl rfl, fun U hU hW => ⟨rfl, by rw [hU], by rw [hU]; exact hPc, kE_warm hW hE, hDc.weaken (fun _ _ _ _ => trivial)⟩⟩ rfl rfl hl.1 rfl (lv_room (Nat.le_of_ble_eq_true rfl)) dX11_readLink_42 ⟨Nat.le_of_ble_eq_true rfl, Nat.le_of_ble_eq_true rfl⟩) hS (fun q _ h => hFc q h) hFc (fun r86 u t H locs ht hvm w87 hB hz1 hk1 hS => ?_)
        obtain ⟨hP1, hD1⟩ := hB
        try dsimp only at w87
        obtain ⟨hPa, hDa⟩ := hJn (w1 := [(m0, .inr (11, oX11 ra y17)), (ra 2, .inl (kI, 8, .inl q_told)), (ra 8, .inl (kI, 40, .inl q_from))]) hk1 ht hP1 hD1
        clear hP hD hPc hDc hFc hJn hP1 hD1 hk1
        have hP : va_P (dC, dI) vwCl [(ra 9, .inl (kI, 40, .inl q_to)), (ra 13, .inl (kI, 700, .inl q_tape)), (m0, .inr (11, oX11 ra y17)), (ra 2, .inl (kI, 8, .inl q_told)), (ra 8, .inl (kI, 40, .inl q_from))] H := hPa
        have hD : va_D A [(ra 9, .inl (kI, 40, .inl q_to)), (ra 13, .inl (kI, 700, .inl q_tape)), (m0, .inr (11, oX11 ra y17)), (ra 2, .inl (kI, 8, .inl q_told)), (ra 8, .inl (kI, 40, .inl q_from))] := hDa
        clear hPa hDa
        refine W.widen (k := 0) (n := 0) (Nat.le_of_ble_eq_true rfl) (Nat.le_of_ble_eq_true rfl) ?_
        obtain ⟨w87, b88⟩ := w87
        subst w87
        refine lv_iconst (v := 4) hx hb dX11_readLink_45 ic_4 ?_
        refine lv_icmp_ne (tgt := 54) hx hb dX11_readLink_46 rfl (fun c89 => ?_) (fun c89 => ?_)
        · have ha9 := hv9 (rr_ok hq21 c24)
          have hrr90 : RRd tT nN y17 (iteT (cntT (shT 20 q_from) (lnkA tT nN sS) (q_told 5).toNatClampNeg = 4) (failT 2 (lnk1 tT nN sS (q_told 4))) (lnk1 tT nN sS (q_told 4))) := it_f (Q := RRd tT nN y17) (by have q := c89; rw [ha9] at q; exact ct_4n q) (hq21)
          refine lv_aload_n hx hb dX11_readLink_54 rfl (lv_at hl 1 rfl) ?_
          refine va_get (D := (dC, dI)) (ci := 11) (v := .int (y17 8)) (C := RX11) (T := TX11) (N := 61) hx hb hts hin11 hown hK hP 2 rfl rfl 22 (Nat.le_of_ble_eq_true rfl) hw_1 (fun _ h9 => h9) rfl dX11_readLink_55 ?_
          refine lv_if_ne (tgt := 65) hx hb dX11_readLink_58 rfl (fun c9 => absurd (c24) c9) (fun _ => ?_)
          refine lv_aload_n hx hb dX11_readLink_61 rfl (lv_at hl 1 rfl) ?_
          obtain ⟨hPc, hDc, hFc, hJn⟩ := cl_a (wc := [(m0, .inr (11, oX11 ra y17)), (ra 13, .inl (kI, 700, .inl q_tape))]) (wr := [(ra 9, .inl (kI, 40, .inl q_to)), (ra 2, .inl (kI, 8, .inl q_told)), (ra 8, .inl (kI, 40, .inl q_from))]) hP hD hS hA [2, 1] [0, 3, 4] rfl rfl (by decide +kernel)
          refine va_callv (va_runV (As := []) (rest := []) ⟨hx, hb, hml, hown, hts⟩ (s11_stepOn l dC dI kB kI kJ kZ kC kS H.size m0 ra y17 q_tape tT nN (nextT tT nN (iteT (cntT (shT 20 q_from) (lnkA tT nN sS) (q_told 5).toNatClampNeg = 4) (failT 2 (lnk1 tT nN sS (q_told 4))) (lnk1 tT nN sS (q_told 4)))) (hq18) (hq_tape) (hrr90.2) (stp_of hrr90) (hTQ)) (cwV 0 hts gX11_readLink_X11_stepOn rfl rfl rfl (by decide +kernel) ⟨Nat.le_of_ble_eq_true rfl, Nat.le_of_ble_eq_true rfl⟩) ⟨fun a U g mk q => by obtain ⟨q0, q1, qP, qE, qD⟩ := q; exact ⟨q0, q1, qP, kE_call qE, qD⟩, va_recv hK hP (ci := 11) (q0 := 2) rfl rfl, fun U hU hW => ⟨rfl, by rw [hU], by rw [hU]; exact hPc, kE_warm hW hE, hDc.weaken (fun _ _ _ _ => trivial)⟩⟩ rfl rfl hl.1 rfl (lv_room (Nat.le_of_ble_eq_true rfl)) dX11_readLink_62 ⟨Nat.le_of_ble_eq_true rfl, Nat.le_of_ble_eq_true rfl⟩) hS (fun q _ h => hFc q h) hFc (fun u t H locs ht hvm w92 hB hz1 hk1 hS => ?_)
          obtain ⟨y93, hq94, hq95, hq96, hq97, hq98, hq99, hq100, hP1, hD1⟩ := hB
          try dsimp only at w92
          obtain ⟨hPa, hDa⟩ := hJn (w1 := [(m0, .inr (11, oX11 ra y93)), (ra 13, .inl (kI, 700, .inl q_tape))]) hk1 ht hP1 hD1
          clear hP hD hPc hDc hFc hJn hP1 hD1 hk1
          have hP : va_P (dC, dI) vwCl [(ra 9, .inl (kI, 40, .inl q_to)), (ra 2, .inl (kI, 8, .inl q_told)), (ra 8, .inl (kI, 40, .inl q_from)), (m0, .inr (11, oX11 ra y93)), (ra 13, .inl (kI, 700, .inl q_tape))] H := hPa
          have hD : va_D A [(ra 9, .inl (kI, 40, .inl q_to)), (ra 2, .inl (kI, 8, .inl q_told)), (ra 8, .inl (kI, 40, .inl q_from)), (m0, .inr (11, oX11 ra y93)), (ra 13, .inl (kI, 700, .inl q_tape))] := hDa
          clear hPa hDa
          refine W.widen (k := 0) (n := 0) (Nat.le_of_ble_eq_true rfl) (Nat.le_of_ble_eq_true rfl) ?_
          have hrr101 : RRd tT nN y93 (lnk2 tT nN sS (q_told 4) (q_told 5) (shT 20 q_from)) := hq98
          refine lv_aload_n hx hb dX11_readLink_65 rfl (lv_at hl 1 rfl) ?_
          obtain ⟨hPc, hDc, hFc, hJn⟩ := cl_a (wc := [(m0, .inr (11, oX11 ra y93)), (ra 2, .inl (kI, 8, .inl q_told))]) (wr := [(ra 9, .inl (kI, 40, .inl q_to)), (ra 8, .inl (kI, 40, .inl q_from)), (ra 13, .inl (kI, 700, .inl q_tape))]) hP hD hS hA [3, 1] [0, 2, 4] rfl rfl (by decide +kernel)
          refine va_calli (va_runV (As := []) (rest := []) ⟨hx, hb, hml, hown, hts⟩ (s11_routerNow l dC dI kB kI kJ kZ kC kS H.size m0 ra y93 q_told tT nN (lnk2 tT nN sS (q_told 4) (q_told 5) (shT 20 q_from)) (hq94) (hq_told) (hrr101)) (cwV 0 hts gX11_readLink_X11_routerNow rfl rfl rfl (by decide +kernel) ⟨Nat.le_of_ble_eq_true rfl, Nat.le_of_ble_eq_true rfl⟩) ⟨fun a U g mk q => by obtain ⟨q0, q1, qP, qE, qD⟩ := q; exact ⟨q0, q1, qP, kE_call qE, qD⟩, va_recv hK hP (ci := 11) (q0 := 3) rfl rfl, fun U hU hW => ⟨rfl, by rw [hU], by rw [hU]; exact hPc, kE_warm hW hE, hDc.weaken (fun _ _ _ _ => trivial)⟩⟩ rfl rfl hl.1 rfl (lv_room (Nat.le_of_ble_eq_true rfl)) dX11_readLink_66 ⟨Nat.le_of_ble_eq_true rfl, Nat.le_of_ble_eq_true rfl⟩) hS (fun q _ h => hFc q h) hFc (fun r102 u t H locs ht hvm w103 hB hz1 hk1 hS => ?_)
          obtain ⟨y104, hq105, hq106, hq107, hq108, hq109, hq110, hP1, hD1⟩ := hB
          try dsimp only at w103
          obtain ⟨hPa, hDa⟩ := hJn (w1 := [(m0, .inr (11, oX11 ra y104)), (ra 2, .inl (kI, 8, .inl q_told))]) hk1 ht hP1 hD1
          clear hP hD hPc hDc hFc hJn hP1 hD1 hk1
          have hP : va_P (dC, dI) vwCl [(ra 9, .inl (kI, 40, .inl q_to)), (ra 8, .inl (kI, 40, .inl q_from)), (ra 13, .inl (kI, 700, .inl q_tape)), (m0, .inr (11, oX11 ra y104)), (ra 2, .inl (kI, 8, .inl q_told))] H := hPa
          have hD : va_D A [(ra 9, .inl (kI, 40, .inl q_to)), (ra 8, .inl (kI, 40, .inl q_from)), (ra 13, .inl (kI, 700, .inl q_tape)), (m0, .inr (11, oX11 ra y104)), (ra 2, .inl (kI, 8, .inl q_told))] := hDa
          clear hPa hDa
          refine W.widen (k := 0) (n := 0) (Nat.le_of_ble_eq_true rfl) (Nat.le_of_ble_eq_true rfl) ?_
          have hv8 := w103.2
          refine lv_istore_n (lv' := [(2, .int r102), (1, .int r15), (0, .ref m0)]) hx hb dX11_readLink_69 rfl hl (Nat.le_of_ble_eq_true rfl) rfl (fun ls hl => ?_)
          refine lv_aload_n hx hb dX11_readLink_70 rfl (lv_at hl 2 rfl) ?_
          refine va_get (D := (dC, dI)) (ci := 11) (v := .int (y104 8)) (C := RX11) (T := TX11) (N := 61) hx hb hts hin11 hown hK hP 3 rfl rfl 22 (Nat.le_of_ble_eq_true rfl) hw_1 (fun _ h9 => h9) rfl dX11_readLink_71 ?_
          refine lv_if_ne (tgt := 96) hx hb dX11_readLink_74 rfl (fun c111 => ?_) (fun c111 => ?_)
          · have b112 : iv 1 5 (y104 8) := iv_neLo c111 (hq105 8 : iv 0 5 (y104 8)) ivk_0 (by decide) (by decide)
            have hrr113 : RRd tT nN y104 (iteT (lnkB tT nN sS (q_told 4) (q_told 5) (shT 20 q_from) ≤ lnkA tT nN sS ∨ hasT (shT 20 q_from) (shT 20 q_to) (q_told 5) (lnkA tT nN sS) (lnkB tT nN sS (q_told 4) (q_told 5) (shT 20 q_from))) (failT 5 (lnk3 tT nN sS (q_told 4) (q_told 5) (shT 20 q_from))) (lnk3 tT nN sS (q_told 4) (q_told 5) (shT 20 q_from))) := ite_r hq108 c111 ▸ hq108
            refine lv_aload_n hx hb dX11_readLink_96 rfl (lv_at hl 2 rfl) ?_
            refine va_get (D := (dC, dI)) (ci := 11) (v := .int (y104 8)) (C := RX11) (T := TX11) (N := 61) hx hb hts hin11 hown hK hP 3 rfl rfl 22 (Nat.le_of_ble_eq_true rfl) hw_1 (fun _ h9 => h9) rfl dX11_readLink_97 ?_
            refine lv_if_eq (tgt := 104) hx hb dX11_readLink_100 rfl (fun c9 => absurd c9 (c111)) (fun _ => ?_)
            have hPD9 := cl_s (wc := [(m0, .inr (11, oX11 ra y104)), (ra 2, .inl (kI, 8, .inl q_told)), (ra 8, .inl (kI, 40, .inl q_from)), (ra 9, .inl (kI, 40, .inl q_to)), (ra 13, .inl (kI, 700, .inl q_tape))]) hP hD [3, 4, 1, 0, 2] rfl (by decide +kernel)
            have hP9 := hPD9.1
            have hD9 := hPD9.2
            exact W.vret hx hb hr (fun t ht hW => ⟨⟨(), rfl, trivial, y104, q_told, q_from, q_to, hq105, hq_told, hq_from, hq_to, (show (x0 2).toInt ≤ (y104 2).toInt from by omega), (show y104 3 = x0 3 from hq107.trans (hq96.trans (hq20.trans (hq10)))), (show ∀ j : Nat, (j : Int) < (q_told 1).toInt → (q_from j).toInt < (q_to j).toInt from hLT), (show ∀ j : Nat, (j : Int) < (q_told 5).toInt → (q_from (20 + j)).toInt < (q_to (20 + j)).toInt from hLD), (show RRd tT nN y104 (lnkS tT nN sS (q_told 4) (q_told 5) (shT 20 q_from) (shT 20 q_to)) from it_f (Q := RRd tT nN y104) c1 ((rr_stepN hrr113 c111))), (show y104 8 = 0 → q_told = upd q_told 5 (q_told 5 + 1) ∧ q_from = upd q_from ((20 + (q_told 5)).toNatClampNeg) (lnkA tT nN sS) ∧ q_to = upd q_to ((20 + (q_told 5)).toNatClampNeg) (lnkB tT nN sS (q_told 4) (q_told 5) (shT 20 q_from)) from fun w => absurd w c111), (show LowT q_told q_from q_to q_told q_from q_to from low_0), (show y104 1 = x0 1 from hq109.trans (hq99.trans (hq22.trans (hq13)))), (show y104 10 = x0 10 from hq110.trans (hq100.trans (hq23.trans (hq14)))), by rw [ht]; exact hP9, hD9⟩, hS.F ht⟩) hS.2.2 dX11_readLink_103
          · have b114 : iv 0 0 (y104 8) := iv_eqL c111 ivk_0
            refine lv_iload_n hx hb dX11_readLink_77 rfl (lv_at hl 0 rfl) ?_
            refine lv_iload_n hx hb dX11_readLink_78 rfl (lv_at hl 1 rfl) ?_
            refine lv_icmp_le (tgt := 91) hx hb dX11_readLink_79 rfl (fun c115 => ?_) (fun c115 => ?_)
            · refine lv_aload_n hx hb dX11_readLink_91 rfl (lv_at hl 2 rfl) ?_
              refine lv_iconst (v := 5) hx hb dX11_readLink_92 ic_5 ?_
              obtain ⟨hPc, hDc, hFc, hJn⟩ := cl_a (wc := [(m0, .inr (11, oX11 ra y104))]) (wr := [(ra 9, .inl (kI, 40, .inl q_to)), (ra 8, .inl (kI, 40, .inl q_from)), (ra 13, .inl (kI, 700, .inl q_tape)), (ra 2, .inl (kI, 8, .inl q_told))]) hP hD hS hA [3] [0, 1, 2, 4] rfl rfl (by decide +kernel)
              refine va_callv (va_runV (As := [.int 5]) (rest := []) ⟨hx, hb, hml, hown, hts⟩ (s11_wrong l dC dI kB kI kJ kZ kC kS H.size m0 ra y104 5 tT nN (rouT tT (q_told 4) (lnk2 tT nN sS (q_told 4) (q_told 5) (shT 20 q_from))) (hq105) ((iv_w ivk_5 (by decide) (by decide))) (hq108)) (cwV 1 hts gX11_readLink_X11_wrong rfl rfl rfl (by decide +kernel) ⟨Nat.le_of_ble_eq_true rfl, Nat.le_of_ble_eq_true rfl⟩) ⟨fun a U g mk q => by obtain ⟨q0, q1, qP, qE, qD⟩ := q; exact ⟨q0, q1, qP, kE_call qE, qD⟩, va_recv hK hP (ci := 11) (q0 := 3) rfl rfl, fun U hU hW => ⟨rfl, by rw [hU], by rw [hU]; exact hPc, kE_warm hW hE, hDc.weaken (fun _ _ _ _ => trivial)⟩⟩ rfl rfl hl.1 rfl (lv_room (Nat.le_of_ble_eq_true rfl)) dX11_readLink_93 ⟨Nat.le_of_ble_eq_true rfl, Nat.le_of_ble_eq_true rfl⟩) hS (fun q _ h => hFc q h) hFc (fun u t H locs ht hvm w117 hB hz1 hk1 hS => ?_)
              obtain ⟨y118, hq119, hq120, hq121, hq122, hq123, hq124, hq125, hP1, hD1⟩ := hB
              try dsimp only at w117
              obtain ⟨hPa, hDa⟩ := hJn (w1 := [(m0, .inr (11, oX11 ra y118))]) hk1 ht hP1 hD1
              clear hP hD hPc hDc hFc hJn hP1 hD1 hk1
              have hP : va_P (dC, dI) vwCl [(ra 9, .inl (kI, 40, .inl q_to)), (ra 8, .inl (kI, 40, .inl q_from)), (ra 13, .inl (kI, 700, .inl q_tape)), (ra 2, .inl (kI, 8, .inl q_told)), (m0, .inr (11, oX11 ra y118))] H := hPa
              have hD : va_D A [(ra 9, .inl (kI, 40, .inl q_to)), (ra 8, .inl (kI, 40, .inl q_from)), (ra 13, .inl (kI, 700, .inl q_tape)), (ra 2, .inl (kI, 8, .inl q_told)), (m0, .inr (11, oX11 ra y118))] := hDa
              clear hPa hDa
              refine W.widen (k := 0) (n := 0) (Nat.le_of_ble_eq_true rfl) (Nat.le_of_ble_eq_true rfl) ?_
              have hok9 := rr_ok hq108 c111
              have hb9 := hv8 hok9
              have ha9 := hv9 (ok_ite (ok_next (ok_num (ok_rou hok9)))).1
              have hrr126 : RRd tT nN y118 (iteT (lnkB tT nN sS (q_told 4) (q_told 5) (shT 20 q_from) ≤ lnkA tT nN sS ∨ hasT (shT 20 q_from) (shT 20 q_to) (q_told 5) (lnkA tT nN sS) (lnkB tT nN sS (q_told 4) (q_told 5) (shT 20 q_from))) (failT 5 (lnk3 tT nN sS (q_told 4) (q_told 5) (shT 20 q_from))) (lnk3 tT nN sS (q_told 4) (q_told 5) (shT 20 q_from))) := it_t (Q := RRd tT nN y118) (Or.inl (by have q := c115; rw [ha9, hb9] at q; exact q)) (hq123)
              refine lv_aload_n hx hb dX11_readLink_96 rfl (lv_at hl 2 rfl) ?_
              refine va_get (D := (dC, dI)) (ci := 11) (v := .int (y118 8)) (C := RX11) (T := TX11) (N := 61) hx hb hts hin11 hown hK hP 4 rfl rfl 22 (Nat.le_of_ble_eq_true rfl) hw_1 (fun _ h9 => h9) rfl dX11_readLink_97 ?_
              refine lv_if_eq (tgt := 104) hx hb dX11_readLink_100 rfl (fun c9 => absurd c9 (iv_ne hq120 ivk_0 (by decide))) (fun _ => ?_)
              have hPD9 := cl_s (wc := [(m0, .inr (11, oX11 ra y118)), (ra 2, .inl (kI, 8, .inl q_told)), (ra 8, .inl (kI, 40, .inl q_from)), (ra 9, .inl (kI, 40, .inl q_to)), (ra 13, .inl (kI, 700, .inl q_tape))]) hP hD [4, 3, 1, 0, 2] rfl (by decide +kernel)
              have hP9 := hPD9.1
              have hD9 := hPD9.2
              exact W.vret hx hb hr (fun t ht hW => ⟨⟨(), rfl, trivial, y118, q_told, q_from, q_to, hq119, hq_told, hq_from, hq_to, (show (x0 2).toInt ≤ (y118 2).toInt from by omega), (show y118 3 = x0 3 from hq122.trans (hq107.trans (hq96.trans (hq20.trans (hq10))))), (show ∀ j : Nat, (j : Int) < (q_told 1).toInt → (q_from j).toInt < (q_to j).toInt from hLT), (show ∀ j : Nat, (j : Int) < (q_told 5).toInt → (q_from (20 + j)).toInt < (q_to (20 + j)).toInt from hLD), (show RRd tT nN y118 (lnkS tT nN sS (q_told 4) (q_told 5) (shT 20 q_from) (shT 20 q_to)) from it_f (Q := RRd tT nN y118) c1 ((rr_stepN hrr126 (iv_ne hq120 ivk_0 (by decide))))), (show y118 8 = 0 → q_told = upd q_told 5 (q_told 5 + 1) ∧ q_from = upd q_from ((20 + (q_told 5)).toNatClampNeg) (lnkA tT nN sS) ∧ q_to = upd q_to ((20 + (q_told 5)).toNatClampNeg) (lnkB tT nN sS (q_told 4) (q_told 5) (shT 20 q_from)) from fun w => absurd w (iv_ne hq120 ivk_0 (by decide))), (show LowT q_told q_from q_to q_told q_from q_to from low_0), (show y118 1 = x0 1 from hq124.trans (hq109.trans (hq99.trans (hq22.trans (hq13))))), (show y118 10 = x0 10 from hq125.trans (hq110.trans (hq100.trans (hq23.trans (hq14))))), by rw [ht]; exact hP9, hD9⟩, hS.F ht⟩) hS.2.2 dX11_readLink_103
            · have b127 : iv 0 10 r15 := iv_ltL (Int32.not_le.mp c115) w16.1 w103.1 (by decide) (by decide)
              have b128 : iv 1 11 r102 := iv_ltR (Int32.not_le.mp c115) w16.1 w103.1 (by decide) (by decide)
              refine lv_aload_n hx hb dX11_readLink_82 rfl (lv_at hl 2 rfl) ?_
              refine lv_iload_n hx hb dX11_readLink_83 rfl (lv_at hl 1 rfl) ?_
              refine lv_iload_n hx hb dX11_readLink_84 rfl (lv_at hl 0 rfl) ?_
              obtain ⟨hPc, hDc, hFc, hJn⟩ := cl_a (wc := [(m0, .inr (11, oX11 ra y104)), (ra 2, .inl (kI, 8, .inl q_told)), (ra 8, .inl (kI, 40, .inl q_from)), (ra 9, .inl (kI, 40, .inl q_to))]) (wr := [(ra 13, .inl (kI, 700, .inl q_tape))]) hP hD hS hA [3, 4, 1, 0] [2] rfl rfl (by decide +kernel)
              refine va_calli (va_runV (As := [.int r15, .int r102]) (rest := []) ⟨hx, hb, hml, hown, hts⟩ (s11_hasLink l dC dI kB kI kJ kZ kC kS H.size m0 ra y104 q_told q_from q_to r15 r102 (hq105) (hq_told) (hq_from) (hq_to)) (cwV 2 hts gX11_readLink_X11_hasLink rfl rfl rfl (by decide +kernel) ⟨Nat.le_of_ble_eq_true rfl, Nat.le_of_ble_eq_true rfl⟩) ⟨fun a U g mk q => by obtain ⟨q0, q1, qP, qE, qD⟩ := q; exact ⟨q0, q1, qP, kE_call qE, qD⟩, va_recv hK hP (ci := 11) (q0 := 3) rfl rfl, fun U hU hW => ⟨rfl, by rw [hU], by rw [hU]; exact hPc, kE_warm hW hE, hDc.weaken (fun _ _ _ _ => trivial)⟩⟩ rfl rfl hl.1 rfl (lv_room (Nat.le_of_ble_eq_true rfl)) dX11_readLink_85 ⟨Nat.le_of_ble_eq_true rfl, Nat.le_of_ble_eq_true rfl⟩) hS (fun q _ h => hFc q h) hFc (fun r129 u t H locs ht hvm w130 hB hz1 hk1 hS => ?_)
              obtain ⟨hP1, hD1⟩ := hB
              try dsimp only at w130
              obtain ⟨hPa, hDa⟩ := hJn (w1 := [(m0, .inr (11, oX11 ra y104)), (ra 2, .inl (kI, 8, .inl q_told)), (ra 8, .inl (kI, 40, .inl q_from)), (ra 9, .inl (kI, 40, .inl q_to))]) hk1 ht hP1 hD1
              clear hP hD hPc hDc hFc hJn hP1 hD1 hk1
              have hP : va_P (dC, dI) vwCl [(ra 13, .inl (kI, 700, .inl q_tape)), (m0, .inr (11, oX11 ra y104)), (ra 2, .inl (kI, 8, .inl q_told)), (ra 8, .inl (kI, 40, .inl q_from)), (ra 9, .inl (kI, 40, .inl q_to))] H := hPa
              have hD : va_D A [(ra 13, .inl (kI, 700, .inl q_tape)), (m0, .inr (11, oX11 ra y104)), (ra 2, .inl (kI, 8, .inl q_told)), (ra 8, .inl (kI, 40, .inl q_from)), (ra 9, .inl (kI, 40, .inl q_to))] := hDa
              clear hPa hDa
              refine W.widen (k := 0) (n := 0) (Nat.le_of_ble_eq_true rfl) (Nat.le_of_ble_eq_true rfl) ?_
              have hh9 := w130.2
              refine lv_if_eq (tgt := 96) hx hb dX11_readLink_88 rfl (fun c131 => ?_) (fun c131 => ?_)
              · have b132 : iv 0 0 r129 := iv_eqL c131 ivk_0
                have hok9 := rr_ok hq108 c111
                have hb9 := hv8 hok9
                have ha9 := hv9 (ok_ite (ok_next (ok_num (ok_rou hok9)))).1
                have hrr133 : RRd tT nN y104 (iteT (lnkB tT nN sS (q_told 4) (q_told 5) (shT 20 q_from) ≤ lnkA tT nN sS ∨ hasT (shT 20 q_from) (shT 20 q_to) (q_told 5) (lnkA tT nN sS) (lnkB tT nN sS (q_told 4) (q_told 5) (shT 20 q_from))) (failT 5 (lnk3 tT nN sS (q_told 4) (q_told 5) (shT 20 q_from))) (lnk3 tT nN sS (q_told 4) (q_told 5) (shT 20 q_from))) := it_f (Q := RRd tT nN y104) (by have q := (hh9.resolve_right (fun w => w.1 c131)).2; have q2 := Int32.not_le.mpr (Int32.not_le.mp c115); rw [ha9, hb9] at q q2; exact fun w => w.elim q2 q) (hq108)
                refine lv_aload_n hx hb dX11_readLink_96 rfl (lv_at hl 2 rfl) ?_
                refine va_get (D := (dC, dI)) (ci := 11) (v := .int (y104 8)) (C := RX11) (T := TX11) (N := 61) hx hb hts hin11 hown hK hP 1 rfl rfl 22 (Nat.le_of_ble_eq_true rfl) hw_1 (fun _ h9 => h9) rfl dX11_readLink_97 ?_
                refine lv_if_eq (tgt := 104) hx hb dX11_readLink_100 rfl (fun _ => ?_) (fun c9 => absurd (c111) c9)
                refine lv_aload_n hx hb dX11_readLink_104 rfl (lv_at hl 2 rfl) ?_
                obtain ⟨hPc, hDc, hFc, hJn⟩ := cl_a (wc := [(m0, .inr (11, oX11 ra y104)), (ra 13, .inl (kI, 700, .inl q_tape))]) (wr := [(ra 2, .inl (kI, 8, .inl q_told)), (ra 8, .inl (kI, 40, .inl q_from)), (ra 9, .inl (kI, 40, .inl q_to))]) hP hD hS hA [1, 0] [2, 3, 4] rfl rfl (by decide +kernel)
                refine va_callv (va_runV (As := []) (rest := []) ⟨hx, hb, hml, hown, hts⟩ (s11_stepOn l dC dI kB kI kJ kZ kC kS H.size m0 ra y104 q_tape tT nN (nextT tT nN (iteT (lnkB tT nN sS (q_told 4) (q_told 5) (shT 20 q_from) ≤ lnkA tT nN sS ∨ hasT (shT 20 q_from) (shT 20 q_to) (q_told 5) (lnkA tT nN sS) (lnkB tT nN sS (q_told 4) (q_told 5) (shT 20 q_from))) (failT 5 (lnk3 tT nN sS (q_told 4) (q_told 5) (shT 20 q_from))) (lnk3 tT nN sS (q_told 4) (q_told 5) (shT 20 q_from)))) (hq105) (hq_tape) (hrr133.2) (stp_of hrr133) (hTQ)) (cwV 0 hts gX11_readLink_X11_stepOn rfl rfl rfl (by decide +kernel) ⟨Nat.le_of_ble_eq_true rfl, Nat.le_of_ble_eq_true rfl⟩) ⟨fun a U g mk q => by obtain ⟨q0, q1, qP, qE, qD⟩ := q; exact ⟨q0, q1, qP, kE_call qE, qD⟩, va_recv hK hP (ci := 11) (q0 := 1) rfl rfl, fun U hU hW => ⟨rfl, by rw [hU], by rw [hU]; exact hPc, kE_warm hW hE, hDc.weaken (fun _ _ _ _ => trivial)⟩⟩ rfl rfl hl.1 rfl (lv_room (Nat.le_of_ble_eq_true rfl)) dX11_readLink_105 ⟨Nat.le_of_ble_eq_true rfl, Nat.le_of_ble_eq_true rfl⟩) hS (fun q _ h => hFc q h) hFc (fun u t H locs ht hvm w135 hB hz1 hk1 hS => ?_)
                obtain ⟨y136, hq137, hq138, hq139, hq140, hq141, hq142, hq143, hP1, hD1⟩ := hB
                try dsimp only at w135
                obtain ⟨hPa, hDa⟩ := hJn (w1 := [(m0, .inr (11, oX11 ra y136)), (ra 13, .inl (kI, 700, .inl q_tape))]) hk1 ht hP1 hD1
                clear hP hD hPc hDc hFc hJn hP1 hD1 hk1
                have hP : va_P (dC, dI) vwCl [(ra 2, .inl (kI, 8, .inl q_told)), (ra 8, .inl (kI, 40, .inl q_from)), (ra 9, .inl (kI, 40, .inl q_to)), (m0, .inr (11, oX11 ra y136)), (ra 13, .inl (kI, 700, .inl q_tape))] H := hPa
                have hD : va_D A [(ra 2, .inl (kI, 8, .inl q_told)), (ra 8, .inl (kI, 40, .inl q_from)), (ra 9, .inl (kI, 40, .inl q_to)), (m0, .inr (11, oX11 ra y136)), (ra 13, .inl (kI, 700, .inl q_tape))] := hDa
                clear hPa hDa
                refine W.widen (k := 0) (n := 0) (Nat.le_of_ble_eq_true rfl) (Nat.le_of_ble_eq_true rfl) ?_
                refine lv_aload_n hx hb dX11_readLink_108 rfl (lv_at hl 2 rfl) ?_
                refine va_get (D := (dC, dI)) (ci := 11) (v := .ref (ra 8)) (C := RX11) (T := TX11) (N := 61) hx hb hts hin11 hown hK hP 3 rfl rfl 9 (Nat.le_of_ble_eq_true rfl) hw_2 (fun _ h9 => h9) rfl dX11_readLink_109 ?_
                refine lv_bipush (v := 20) hx hb dX11_readLink_112 bp_20 ?_
                refine lv_aload_n hx hb dX11_readLink_114 rfl (lv_at hl 2 rfl) ?_
                refine va_get (D := (dC, dI)) (ci := 11) (v := .ref (ra 2)) (C := RX11) (T := TX11) (N := 61) hx hb hts hin11 hown hK hP 3 rfl rfl 3 (Nat.le_of_ble_eq_true rfl) hw_0 (fun _ h9 => h9) rfl dX11_readLink_115 ?_
                refine lv_iconst (v := 5) hx hb dX11_readLink_118 ic_5 ?_
                refine va_iald hx hb hK hP 0 1 rfl rfl (vp_in_nI (n := 5) (by decide) (by decide)) dX11_readLink_119 ?_
                refine W.eq (g2 := F0 m 120 ls [.int (q_told 5), .int 20, .ref (ra 8)]) rfl ?_
                refine lv_iadd hx hb dX11_readLink_120 ?_
                have b144 : iv 20 39 (20 + (q_told 5)) := iv_add ivk_20 b2 (by decide) (by decide) (by decide) (by decide)
                refine lv_iload_n hx hb dX11_readLink_121 rfl (lv_at hl 1 rfl) ?_
                refine va_iast hx hb hK hP hD hS 1 1 rfl rfl (iv_in b144 (by decide) (by decide)) dX11_readLink_122 (fun H locs hPa hDa hS => ?_)
                clear hP hD
                have hP : va_P (dC, dI) vwCl [(ra 2, .inl (kI, 8, .inl q_told)), (ra 8, .inl (kI, 40, .inl (upd q_from (20 + (q_told 5)).toNatClampNeg r15))), (ra 9, .inl (kI, 40, .inl q_to)), (m0, .inr (11, oX11 ra y136)), (ra 13, .inl (kI, 700, .inl q_tape))] H := hPa
                have hD : va_D A [(ra 2, .inl (kI, 8, .inl q_told)), (ra 8, .inl (kI, 40, .inl (upd q_from (20 + (q_told 5)).toNatClampNeg r15))), (ra 9, .inl (kI, 40, .inl q_to)), (m0, .inr (11, oX11 ra y136)), (ra 13, .inl (kI, 700, .inl q_tape))] := hDa
                clear hPa hDa
                refine lv_aload_n hx hb dX11_readLink_123 rfl (lv_at hl 2 rfl) ?_
                refine va_get (D := (dC, dI)) (ci := 11) (v := .ref (ra 9)) (C := RX11) (T := TX11) (N := 61) hx hb hts hin11 hown hK hP 3 rfl rfl 10 (Nat.le_of_ble_eq_true rfl) hw_3 (fun _ h9 => h9) rfl dX11_readLink_124 ?_
                refine lv_bipush (v := 20) hx hb dX11_readLink_127 bp_20 ?_
                refine lv_aload_n hx hb dX11_readLink_129 rfl (lv_at hl 2 rfl) ?_
                refine va_get (D := (dC, dI)) (ci := 11) (v := .ref (ra 2)) (C := RX11) (T := TX11) (N := 61) hx hb hts hin11 hown hK hP 3 rfl rfl 3 (Nat.le_of_ble_eq_true rfl) hw_0 (fun _ h9 => h9) rfl dX11_readLink_130 ?_
                refine lv_iconst (v := 5) hx hb dX11_readLink_133 ic_5 ?_
                refine va_iald hx hb hK hP 0 1 rfl rfl (vp_in_nI (n := 5) (by decide) (by decide)) dX11_readLink_134 ?_
                refine W.eq (g2 := F0 m 135 ls [.int (q_told 5), .int 20, .ref (ra 9)]) rfl ?_
                refine lv_iadd hx hb dX11_readLink_135 ?_
                have b145 : iv 20 39 (20 + (q_told 5)) := iv_add ivk_20 b2 (by decide) (by decide) (by decide) (by decide)
                refine lv_iload_n hx hb dX11_readLink_136 rfl (lv_at hl 0 rfl) ?_
                refine va_iast hx hb hK hP hD hS 2 1 rfl rfl (iv_in b145 (by decide) (by decide)) dX11_readLink_137 (fun H locs hPa hDa hS => ?_)
                clear hP hD
                have hP : va_P (dC, dI) vwCl [(ra 2, .inl (kI, 8, .inl q_told)), (ra 8, .inl (kI, 40, .inl (upd q_from (20 + (q_told 5)).toNatClampNeg r15))), (ra 9, .inl (kI, 40, .inl (upd q_to (20 + (q_told 5)).toNatClampNeg r102))), (m0, .inr (11, oX11 ra y136)), (ra 13, .inl (kI, 700, .inl q_tape))] H := hPa
                have hD : va_D A [(ra 2, .inl (kI, 8, .inl q_told)), (ra 8, .inl (kI, 40, .inl (upd q_from (20 + (q_told 5)).toNatClampNeg r15))), (ra 9, .inl (kI, 40, .inl (upd q_to (20 + (q_told 5)).toNatClampNeg r102))), (m0, .inr (11, oX11 ra y136)), (ra 13, .inl (kI, 700, .inl q_tape))] := hDa
                clear hPa hDa
                refine lv_aload_n hx hb dX11_readLink_138 rfl (lv_at hl 2 rfl) ?_
                refine va_get (D := (dC, dI)) (ci := 11) (v := .ref (ra 2)) (C := RX11) (T := TX11) (N := 61) hx hb hts hin11 hown hK hP 3 rfl rfl 3 (Nat.le_of_ble_eq_true rfl) hw_0 (fun _ h9 => h9) rfl dX11_readLink_139 ?_
                refine lv_iconst (v := 5) hx hb dX11_readLink_142 ic_5 ?_
                refine lv_dup2_11 hx hb dX11_readLink_143 rfl rfl ?_
                refine va_iald hx hb hK hP 0 1 rfl rfl (vp_in_nI (n := 5) (by decide) (by decide)) dX11_readLink_144 ?_
                refine W.eq (g2 := F0 m 145 ls [.int (q_told 5), .int 5, .ref (ra 2)]) rfl ?_
                refine lv_iconst (v := 1) hx hb dX11_readLink_145 ic_1 ?_
                refine lv_iadd hx hb dX11_readLink_146 ?_
                have b146 : iv 1 20 ((q_told 5) + 1) := iv_add b2 ivk_1 (by decide) (by decide) (by decide) (by decide)
                refine va_iast hx hb hK hP hD hS 0 1 rfl rfl (vp_in_nI (n := 5) (by decide) (by decide)) dX11_readLink_147 (fun H locs hPa hDa hS => ?_)
                clear hP hD
                have hP : va_P (dC, dI) vwCl [(ra 2, .inl (kI, 8, .inl (upd q_told 5 ((q_told 5) + 1)))), (ra 8, .inl (kI, 40, .inl (upd q_from (20 + (q_told 5)).toNatClampNeg r15))), (ra 9, .inl (kI, 40, .inl (upd q_to (20 + (q_told 5)).toNatClampNeg r102))), (m0, .inr (11, oX11 ra y136)), (ra 13, .inl (kI, 700, .inl q_tape))] H := hPa
                have hD : va_D A [(ra 2, .inl (kI, 8, .inl (upd q_told 5 ((q_told 5) + 1)))), (ra 8, .inl (kI, 40, .inl (upd q_from (20 + (q_told 5)).toNatClampNeg r15))), (ra 9, .inl (kI, 40, .inl (upd q_to (20 + (q_told 5)).toNatClampNeg r102))), (m0, .inr (11, oX11 ra y136)), (ra 13, .inl (kI, 700, .inl q_tape))] := hDa
                clear hPa hDa
                have hPD9 := cl_s (wc := [(m0, .inr (11, oX11 ra y136)), (ra 2, .inl (kI, 8, .inl (upd q_told 5 ((q_told 5) + 1)))), (ra 8, .inl (kI, 40, .inl (upd q_from (20 + (q_told 5)).toNatClampNeg r15))), (ra 9, .inl (kI, 40, .inl (upd q_to (20 + (q_told 5)).toNatClampNeg r102))), (ra 13, .inl (kI, 700, .inl q_tape))]) hP hD [3, 0, 1, 2, 4] rfl (by decide +kernel)
                have hP9 := hPD9.1
                have hD9 := hPD9.2
                exact W.vret hx hb hr (fun t ht hW => ⟨⟨(), rfl, trivial, y136, upd q_told 5 ((q_told 5) + 1), upd q_from (20 + (q_told 5)).toNatClampNeg r15, upd q_to (20 + (q_told 5)).toNatClampNeg r102, hq137, (fI_u hq_told (k := 5) ((iv_w b146 (by decide) (by decide)))), (fI_u hq_from (k := (20 + (q_told 5)).toNatClampNeg) ((iv_w b127 (by decide) (by decide)))), (fI_u hq_to (k := (20 + (q_told 5)).toNatClampNeg) ((iv_w b128 (by decide) (by decide)))), (show (x0 2).toInt ≤ (y136 2).toInt from by omega), (show y136 3 = x0 3 from hq139.trans (hq107.trans (hq96.trans (hq20.trans (hq10))))), lk_lt hLT (hq_told 1) (hq_told 5), lk_ld hLD b2 (Int32.not_le.mp c115), (show RRd tT nN y136 (lnkS tT nN sS (q_told 4) (q_told 5) (shT 20 q_from) (shT 20 q_to)) from it_f (Q := RRd tT nN y136) c1 (hq141)), fun _ => ⟨rfl, congrArg (upd q_from ((20 + (q_told 5)).toNatClampNeg)) (hv9 (ok_ite (ok_next (ok_num (ok_rou (ok_ite (rr_ok hrr133 c111)).1)))).1), congrArg (upd q_to ((20 + (q_told 5)).toNatClampNeg)) (hv8 (ok_ite (rr_ok hrr133 c111)).1)⟩, low_l (by decide) (iv_w b2 (by decide) (by decide)), (show y136 1 = x0 1 from hq142.trans (hq109.trans (hq99.trans (hq22.trans (hq13))))), (show y136 10 = x0 10 from hq143.trans (hq110.trans (hq100.trans (hq23.trans (hq14))))), by rw [ht]; exact hP9, hD9⟩, hS.F ht⟩) hS.2.2 dX11_readLink_148
              · have b147 : iv 1 1 r129 := iv_neLo c131 w130.1 ivk_0 (by decide) (by decide)
                refine lv_aload_n hx hb dX11_readLink_91 rfl (lv_at hl 2 rfl) ?_
                refine lv_iconst (v := 5) hx hb dX11_readLink_92 ic_5 ?_
                obtain ⟨hPc, hDc, hFc, hJn⟩ := cl_a (wc := [(m0, .inr (11, oX11 ra y104))]) (wr := [(ra 13, .inl (kI, 700, .inl q_tape)), (ra 2, .inl (kI, 8, .inl q_told)), (ra 8, .inl (kI, 40, .inl q_from)), (ra 9, .inl (kI, 40, .inl q_to))]) hP hD hS hA [1] [0, 2, 3, 4] rfl rfl (by decide +kernel)
                refine va_callv (va_runV (As := [.int 5]) (rest := []) ⟨hx, hb, hml, hown, hts⟩ (s11_wrong l dC dI kB kI kJ kZ kC kS H.size m0 ra y104 5 tT nN (rouT tT (q_told 4) (lnk2 tT nN sS (q_told 4) (q_told 5) (shT 20 q_from))) (hq105) ((iv_w ivk_5 (by decide) (by decide))) (hq108)) (cwV 1 hts gX11_readLink_X11_wrong rfl rfl rfl (by decide +kernel) ⟨Nat.le_of_ble_eq_true rfl, Nat.le_of_ble_eq_true rfl⟩) ⟨fun a U g mk q => by obtain ⟨q0, q1, qP, qE, qD⟩ := q; exact ⟨q0, q1, qP, kE_call qE, qD⟩, va_recv hK hP (ci := 11) (q0 := 1) rfl rfl, fun U hU hW => ⟨rfl, by rw [hU], by rw [hU]; exact hPc, kE_warm hW hE, hDc.weaken (fun _ _ _ _ => trivial)⟩⟩ rfl rfl hl.1 rfl (lv_room (Nat.le_of_ble_eq_true rfl)) dX11_readLink_93 ⟨Nat.le_of_ble_eq_true rfl, Nat.le_of_ble_eq_true rfl⟩) hS (fun q _ h => hFc q h) hFc (fun u t H locs ht hvm w149 hB hz1 hk1 hS => ?_)
                obtain ⟨y150, hq151, hq152, hq153, hq154, hq155, hq156, hq157, hP1, hD1⟩ := hB
                try dsimp only at w149
                obtain ⟨hPa, hDa⟩ := hJn (w1 := [(m0, .inr (11, oX11 ra y150))]) hk1 ht hP1 hD1
                clear hP hD hPc hDc hFc hJn hP1 hD1 hk1
                have hP : va_P (dC, dI) vwCl [(ra 13, .inl (kI, 700, .inl q_tape)), (ra 2, .inl (kI, 8, .inl q_told)), (ra 8, .inl (kI, 40, .inl q_from)), (ra 9, .inl (kI, 40, .inl q_to)), (m0, .inr (11, oX11 ra y150))] H := hPa
                have hD : va_D A [(ra 13, .inl (kI, 700, .inl q_tape)), (ra 2, .inl (kI, 8, .inl q_told)), (ra 8, .inl (kI, 40, .inl q_from)), (ra 9, .inl (kI, 40, .inl q_to)), (m0, .inr (11, oX11 ra y150))] := hDa
                clear hPa hDa
                refine W.widen (k := 0) (n := 0) (Nat.le_of_ble_eq_true rfl) (Nat.le_of_ble_eq_true rfl) ?_
                have hok9 := rr_ok hq108 c111
                have hb9 := hv8 hok9
                have ha9 := hv9 (ok_ite (ok_next (ok_num (ok_rou hok9)))).1
                have hrr158 : RRd tT nN y150 (iteT (lnkB tT nN sS (q_told 4) (q_told 5) (shT 20 q_from) ≤ lnkA tT nN sS ∨ hasT (shT 20 q_from) (shT 20 q_to) (q_told 5) (lnkA tT nN sS) (lnkB tT nN sS (q_told 4) (q_told 5) (shT 20 q_from))) (failT 5 (lnk3 tT nN sS (q_told 4) (q_told 5) (shT 20 q_from))) (lnk3 tT nN sS (q_told 4) (q_told 5) (shT 20 q_from))) := it_t (Q := RRd tT nN y150) (Or.inr (by have q := (hh9.resolve_left (fun w => c131 w.1)).2; rw [ha9, hb9] at q; exact q)) (hq155)
                refine lv_aload_n hx hb dX11_readLink_96 rfl (lv_at hl 2 rfl) ?_
                refine va_get (D := (dC, dI)) (ci := 11) (v := .int (y150 8)) (C := RX11) (T := TX11) (N := 61) hx hb hts hin11 hown hK hP 4 rfl rfl 22 (Nat.le_of_ble_eq_true rfl) hw_1 (fun _ h9 => h9) rfl dX11_readLink_97 ?_
                refine lv_if_eq (tgt := 104) hx hb dX11_readLink_100 rfl (fun c9 => absurd c9 (iv_ne hq152 ivk_0 (by decide))) (fun _ => ?_)
                have hPD9 := cl_s (wc := [(m0, .inr (11, oX11 ra y150)), (ra 2, .inl (kI, 8, .inl q_told)), (ra 8, .inl (kI, 40, .inl q_from)), (ra 9, .inl (kI, 40, .inl q_to)), (ra 13, .inl (kI, 700, .inl q_tape))]) hP hD [4, 1, 2, 3, 0] rfl (by decide +kernel)
                have hP9 := hPD9.1
                have hD9 := hPD9.2
                exact W.vret hx hb hr (fun t ht hW => ⟨⟨(), rfl, trivial, y150, q_told, q_from, q_to, hq151, hq_told, hq_from, hq_to, (show (x0 2).toInt ≤ (y150 2).toInt from by omega), (show y150 3 = x0 3 from hq154.trans (hq107.trans (hq96.trans (hq20.trans (hq10))))), (show ∀ j : Nat, (j : Int) < (q_told 1).toInt → (q_from j).toInt < (q_to j).toInt from hLT), (show ∀ j : Nat, (j : Int) < (q_told 5).toInt → (q_from (20 + j)).toInt < (q_to (20 + j)).toInt from hLD), (show RRd tT nN y150 (lnkS tT nN sS (q_told 4) (q_told 5) (shT 20 q_from) (shT 20 q_to)) from it_f (Q := RRd tT nN y150) c1 ((rr_stepN hrr158 (iv_ne hq152 ivk_0 (by decide))))), (show y150 8 = 0 → q_told = upd q_told 5 (q_told 5 + 1) ∧ q_from = upd q_from ((20 + (q_told 5)).toNatClampNeg) (lnkA tT nN sS) ∧ q_to = upd q_to ((20 + (q_told 5)).toNatClampNeg) (lnkB tT nN sS (q_told 4) (q_told 5) (shT 20 q_from)) from fun w => absurd w (iv_ne hq152 ivk_0 (by decide))), (show LowT q_told q_from q_to q_told q_from q_to from low_0), (show y150 1 = x0 1 from hq156.trans (hq109.trans (hq99.trans (hq22.trans (hq13))))), (show y150 10 = x0 10 from hq157.trans (hq110.trans (hq100.trans (hq23.trans (hq14))))), by rw [ht]; exact hP9, hD9⟩, hS.F ht⟩) hS.2.2 dX11_readLink_103
        · have b159 : iv 4 4 (nI (cntT (shT 20 q_from) r15 (q_told 5).toNatClampNeg)) := iv_eqL c89 ivk_4
          refine lv_aload_n hx hb dX11_readLink_49 rfl (lv_at hl 1 rfl) ?_
          refine lv_iconst (v := 2) hx hb dX11_readLink_50 ic_2 ?_
          obtain ⟨hPc, hDc, hFc, hJn⟩ := cl_a (wc := [(m0, .inr (11, oX11 ra y17))]) (wr := [(ra 9, .inl (kI, 40, .inl q_to)), (ra 13, .inl (kI, 700, .inl q_tape)), (ra 2, .inl (kI, 8, .inl q_told)), (ra 8, .inl (kI, 40, .inl q_from))]) hP hD hS hA [2] [0, 1, 3, 4] rfl rfl (by decide +kernel)
          refine va_callv (va_runV (As := [.int 2]) (rest := []) ⟨hx, hb, hml, hown, hts⟩ (s11_wrong l dC dI kB kI kJ kZ kC kS H.size m0 ra y17 2 tT nN (rouT tT (q_told 4) (nextT tT nN sS)) (hq18) ((iv_w ivk_2 (by decide) (by decide))) (hq21)) (cwV 1 hts gX11_readLink_X11_wrong rfl rfl rfl (by decide +kernel) ⟨Nat.le_of_ble_eq_true rfl, Nat.le_of_ble_eq_true rfl⟩) ⟨fun a U g mk q => by obtain ⟨q0, q1, qP, qE, qD⟩ := q; exact ⟨q0, q1, qP, kE_call qE, qD⟩, va_recv hK hP (ci := 11) (q0 := 2) rfl rfl, fun U hU hW => ⟨rfl, by rw [hU], by rw [hU]; exact hPc, kE_warm hW hE, hDc.weaken (fun _ _ _ _ => trivial)⟩⟩ rfl rfl hl.1 rfl (lv_room (Nat.le_of_ble_eq_true rfl)) dX11_readLink_51 ⟨Nat.le_of_ble_eq_true rfl, Nat.le_of_ble_eq_true rfl⟩) hS (fun q _ h => hFc q h) hFc (fun u t H locs ht hvm w161 hB hz1 hk1 hS => ?_)
          obtain ⟨y162, hq163, hq164, hq165, hq166, hq167, hq168, hq169, hP1, hD1⟩ := hB
          try dsimp only at w161
          obtain ⟨hPa, hDa⟩ := hJn (w1 := [(m0, .inr (11, oX11 ra y162))]) hk1 ht hP1 hD1
          clear hP hD hPc hDc hFc hJn hP1 hD1 hk1
          have hP : va_P (dC, dI) vwCl [(ra 9, .inl (kI, 40, .inl q_to)), (ra 13, .inl (kI, 700, .inl q_tape)), (ra 2, .inl (kI, 8, .inl q_told)), (ra 8, .inl (kI, 40, .inl q_from)), (m0, .inr (11, oX11 ra y162))] H := hPa
          have hD : va_D A [(ra 9, .inl (kI, 40, .inl q_to)), (ra 13, .inl (kI, 700, .inl q_tape)), (ra 2, .inl (kI, 8, .inl q_told)), (ra 8, .inl (kI, 40, .inl q_from)), (m0, .inr (11, oX11 ra y162))] := hDa
          clear hPa hDa
          refine W.widen (k := 0) (n := 0) (Nat.le_of_ble_eq_true rfl) (Nat.le_of_ble_eq_true rfl) ?_
          have ha9 := hv9 (rr_ok hq21 c24)
          have hrr170 : RRd tT nN y162 (iteT (cntT (shT 20 q_from) (lnkA tT nN sS) (q_told 5).toNatClampNeg = 4) (failT 2 (lnk1 tT nN sS (q_told 4))) (lnk1 tT nN sS (q_told 4))) := it_t (Q := RRd tT nN y162) (by have q := c89; rw [ha9] at q; exact ct_4 (iv_w b2 (by decide) (by decide)) q) (hq167)
          refine lv_aload_n hx hb dX11_readLink_54 rfl (lv_at hl 1 rfl) ?_
          refine va_get (D := (dC, dI)) (ci := 11) (v := .int (y162 8)) (C := RX11) (T := TX11) (N := 61) hx hb hts hin11 hown hK hP 4 rfl rfl 22 (Nat.le_of_ble_eq_true rfl) hw_1 (fun _ h9 => h9) rfl dX11_readLink_55 ?_
          refine lv_if_ne (tgt := 65) hx hb dX11_readLink_58 rfl (fun _ => ?_) (fun c9 => absurd c9 (iv_ne hq164 ivk_0 (by decide)))
          have hrr171 : RRd tT nN y162 (lnk2 tT nN sS (q_told 4) (q_told 5) (shT 20 q_from)) := rr_stepN hrr170 (iv_ne hq164 ivk_0 (by decide))
          refine lv_aload_n hx hb dX11_readLink_65 rfl (lv_at hl 1 rfl) ?_
          obtain ⟨hPc, hDc, hFc, hJn⟩ := cl_a (wc := [(m0, .inr (11, oX11 ra y162)), (ra 2, .inl (kI, 8, .inl q_told))]) (wr := [(ra 9, .inl (kI, 40, .inl q_to)), (ra 13, .inl (kI, 700, .inl q_tape)), (ra 8, .inl (kI, 40, .inl q_from))]) hP hD hS hA [4, 2] [0, 1, 3] rfl rfl (by decide +kernel)
          refine va_calli (va_runV (As := []) (rest := []) ⟨hx, hb, hml, hown, hts⟩ (s11_routerNow l dC dI kB kI kJ kZ kC kS H.size m0 ra y162 q_told tT nN (lnk2 tT nN sS (q_told 4) (q_told 5) (shT 20 q_from)) (hq163) (hq_told) (hrr171)) (cwV 0 hts gX11_readLink_X11_routerNow rfl rfl rfl (by decide +kernel) ⟨Nat.le_of_ble_eq_true rfl, Nat.le_of_ble_eq_true rfl⟩) ⟨fun a U g mk q => by obtain ⟨q0, q1, qP, qE, qD⟩ := q; exact ⟨q0, q1, qP, kE_call qE, qD⟩, va_recv hK hP (ci := 11) (q0 := 4) rfl rfl, fun U hU hW => ⟨rfl, by rw [hU], by rw [hU]; exact hPc, kE_warm hW hE, hDc.weaken (fun _ _ _ _ => trivial)⟩⟩ rfl rfl hl.1 rfl (lv_room (Nat.le_of_ble_eq_true rfl)) dX11_readLink_66 ⟨Nat.le_of_ble_eq_true rfl, Nat.le_of_ble_eq_true rfl⟩) hS (fun q _ h => hFc q h) hFc (fun r172 u t H locs ht hvm w173 hB hz1 hk1 hS => ?_)
          obtain ⟨y174, hq175, hq176, hq177, hq178, hq179, hq180, hP1, hD1⟩ := hB
          try dsimp only at w173
          obtain ⟨hPa, hDa⟩ := hJn (w1 := [(m0, .inr (11, oX11 ra y174)), (ra 2, .inl (kI, 8, .inl q_told))]) hk1 ht hP1 hD1
          clear hP hD hPc hDc hFc hJn hP1 hD1 hk1
          have hP : va_P (dC, dI) vwCl [(ra 9, .inl (kI, 40, .inl q_to)), (ra 13, .inl (kI, 700, .inl q_tape)), (ra 8, .inl (kI, 40, .inl q_from)), (m0, .inr (11, oX11 ra y174)), (ra 2, .inl (kI, 8, .inl q_told))] H := hPa
          have hD : va_D A [(ra 9, .inl (kI, 40, .inl q_to)), (ra 13, .inl (kI, 700, .inl q_tape)), (ra 8, .inl (kI, 40, .inl q_from)), (m0, .inr (11, oX11 ra y174)), (ra 2, .inl (kI, 8, .inl q_told))] := hDa
          clear hPa hDa
          refine W.widen (k := 0) (n := 0) (Nat.le_of_ble_eq_true rfl) (Nat.le_of_ble_eq_true rfl) ?_
          have hv8 := w173.2
          refine lv_istore_n (lv' := [(2, .int r172), (1, .int r15), (0, .ref m0)]) hx hb dX11_readLink_69 rfl hl (Nat.le_of_ble_eq_true rfl) rfl (fun ls hl => ?_)
          refine lv_aload_n hx hb dX11_readLink_70 rfl (lv_at hl 2 rfl) ?_
          refine va_get (D := (dC, dI)) (ci := 11) (v := .int (y174 8)) (C := RX11) (T := TX11) (N := 61) hx hb hts hin11 hown hK hP 3 rfl rfl 22 (Nat.le_of_ble_eq_true rfl) hw_1 (fun _ h9 => h9) rfl dX11_readLink_71 ?_
          refine lv_if_ne (tgt := 96) hx hb dX11_readLink_74 rfl (fun c181 => ?_) (fun c181 => ?_)
          · have b182 : iv 1 5 (y174 8) := iv_neLo c181 (hq175 8 : iv 0 5 (y174 8)) ivk_0 (by decide) (by decide)
            have hrr183 : RRd tT nN y174 (iteT (lnkB tT nN sS (q_told 4) (q_told 5) (shT 20 q_from) ≤ lnkA tT nN sS ∨ hasT (shT 20 q_from) (shT 20 q_to) (q_told 5) (lnkA tT nN sS) (lnkB tT nN sS (q_told 4) (q_told 5) (shT 20 q_from))) (failT 5 (lnk3 tT nN sS (q_told 4) (q_told 5) (shT 20 q_from))) (lnk3 tT nN sS (q_told 4) (q_told 5) (shT 20 q_from))) := ite_r hq178 c181 ▸ hq178
            refine lv_aload_n hx hb dX11_readLink_96 rfl (lv_at hl 2 rfl) ?_
            refine va_get (D := (dC, dI)) (ci := 11) (v := .int (y174 8)) (C := RX11) (T := TX11) (N := 61) hx hb hts hin11 hown hK hP 3 rfl rfl 22 (Nat.le_of_ble_eq_true rfl) hw_1 (fun _ h9 => h9) rfl dX11_readLink_97 ?_
            refine lv_if_eq (tgt := 104) hx hb dX11_readLink_100 rfl (fun c9 => absurd c9 (c181)) (fun _ => ?_)
            have hPD9 := cl_s (wc := [(m0, .inr (11, oX11 ra y174)), (ra 2, .inl (kI, 8, .inl q_told)), (ra 8, .inl (kI, 40, .inl q_from)), (ra 9, .inl (kI, 40, .inl q_to)), (ra 13, .inl (kI, 700, .inl q_tape))]) hP hD [3, 4, 2, 0, 1] rfl (by decide +kernel)
            have hP9 := hPD9.1
            have hD9 := hPD9.2
            exact W.vret hx hb hr (fun t ht hW => ⟨⟨(), rfl, trivial, y174, q_told, q_from, q_to, hq175, hq_told, hq_from, hq_to, (show (x0 2).toInt ≤ (y174 2).toInt from by omega), (show y174 3 = x0 3 from hq177.trans (hq166.trans (hq20.trans (hq10)))), (show ∀ j : Nat, (j : Int) < (q_told 1).toInt → (q_from j).toInt < (q_to j).toInt from hLT), (show ∀ j : Nat, (j : Int) < (q_told 5).toInt → (q_from (20 + j)).toInt < (q_to (20 + j)).toInt from hLD), (show RRd tT nN y174 (lnkS tT nN sS (q_told 4) (q_told 5) (shT 20 q_from) (shT 20 q_to)) from it_f (Q := RRd tT nN y174) c1 ((rr_stepN hrr183 c181))), (show y174 8 = 0 → q_told = upd q_told 5 (q_told 5 + 1) ∧ q_from = upd q_from ((20 + (q_told 5)).toNatClampNeg) (lnkA tT nN sS) ∧ q_to = upd q_to ((20 + (q_told 5)).toNatClampNeg) (lnkB tT nN sS (q_told 4) (q_told 5) (shT 20 q_from)) from fun w => absurd w c181), (show LowT q_told q_from q_to q_told q_from q_to from low_0), (show y174 1 = x0 1 from hq179.trans (hq168.trans (hq22.trans (hq13)))), (show y174 10 = x0 10 from hq180.trans (hq169.trans (hq23.trans (hq14)))), by rw [ht]; exact hP9, hD9⟩, hS.F ht⟩) hS.2.2 dX11_readLink_103
          · have b184 : iv 0 0 (y174 8) := iv_eqL c181 ivk_0
            refine lv_iload_n hx hb dX11_readLink_77 rfl (lv_at hl 0 rfl) ?_
            refine lv_iload_n hx hb dX11_readLink_78 rfl (lv_at hl 1 rfl) ?_
            refine lv_icmp_le (tgt := 91) hx hb dX11_readLink_79 rfl (fun c185 => ?_) (fun c185 => ?_)
            · refine lv_aload_n hx hb dX11_readLink_91 rfl (lv_at hl 2 rfl) ?_
              refine lv_iconst (v := 5) hx hb dX11_readLink_92 ic_5 ?_
              obtain ⟨hPc, hDc, hFc, hJn⟩ := cl_a (wc := [(m0, .inr (11, oX11 ra y174))]) (wr := [(ra 9, .inl (kI, 40, .inl q_to)), (ra 13, .inl (kI, 700, .inl q_tape)), (ra 8, .inl (kI, 40, .inl q_from)), (ra 2, .inl (kI, 8, .inl q_told))]) hP hD hS hA [3] [0, 1, 2, 4] rfl rfl (by decide +kernel)
              refine va_callv (va_runV (As := [.int 5]) (rest := []) ⟨hx, hb, hml, hown, hts⟩ (s11_wrong l dC dI kB kI kJ kZ kC kS H.size m0 ra y174 5 tT nN (rouT tT (q_told 4) (lnk2 tT nN sS (q_told 4) (q_told 5) (shT 20 q_from))) (hq175) ((iv_w ivk_5 (by decide) (by decide))) (hq178)) (cwV 1 hts gX11_readLink_X11_wrong rfl rfl rfl (by decide +kernel) ⟨Nat.le_of_ble_eq_true rfl, Nat.le_of_ble_eq_true rfl⟩) ⟨fun a U g mk q => by obtain ⟨q0, q1, qP, qE, qD⟩ := q; exact ⟨q0, q1, qP, kE_call qE, qD⟩, va_recv hK hP (ci := 11) (q0 := 3) rfl rfl, fun U hU hW => ⟨rfl, by rw [hU], by rw [hU]; exact hPc, kE_warm hW hE, hDc.weaken (fun _ _ _ _ => trivial)⟩⟩ rfl rfl hl.1 rfl (lv_room (Nat.le_of_ble_eq_true rfl)) dX11_readLink_93 ⟨Nat.le_of_ble_eq_true rfl, Nat.le_of_ble_eq_true rfl⟩) hS (fun q _ h => hFc q h) hFc (fun u t H locs ht hvm w187 hB hz1 hk1 hS => ?_)
              obtain ⟨y188, hq189, hq190, hq191, hq192, hq193, hq194, hq195, hP1, hD1⟩ := hB
              try dsimp only at w187
              obtain ⟨hPa, hDa⟩ := hJn (w1 := [(m0, .inr (11, oX11 ra y188))]) hk1 ht hP1 hD1
              clear hP hD hPc hDc hFc hJn hP1 hD1 hk1
              have hP : va_P (dC, dI) vwCl [(ra 9, .inl (kI, 40, .inl q_to)), (ra 13, .inl (kI, 700, .inl q_tape)), (ra 8, .inl (kI, 40, .inl q_from)), (ra 2, .inl (kI, 8, .inl q_told)), (m0, .inr (11, oX11 ra y188))] H := hPa
              have hD : va_D A [(ra 9, .inl (kI, 40, .inl q_to)), (ra 13, .inl (kI, 700, .inl q_tape)), (ra 8, .inl (kI, 40, .inl q_from)), (ra 2, .inl (kI, 8, .inl q_told)), (m0, .inr (11, oX11 ra y188))] := hDa
              clear hPa hDa
              refine W.widen (k := 0) (n := 0) (Nat.le_of_ble_eq_true rfl) (Nat.le_of_ble_eq_true rfl) ?_
              have hok9 := rr_ok hq178 c181
              have hb9 := hv8 hok9
              have ha9 := hv9 (ok_ite (ok_next (ok_num (ok_rou hok9)))).1
              have hrr196 : RRd tT nN y188 (iteT (lnkB tT nN sS (q_told 4) (q_told 5) (shT 20 q_from) ≤ lnkA tT nN sS ∨ hasT (shT 20 q_from) (shT 20 q_to) (q_told 5) (lnkA tT nN sS) (lnkB tT nN sS (q_told 4) (q_told 5) (shT 20 q_from))) (failT 5 (lnk3 tT nN sS (q_told 4) (q_told 5) (shT 20 q_from))) (lnk3 tT nN sS (q_told 4) (q_told 5) (shT 20 q_from))) := it_t (Q := RRd tT nN y188) (Or.inl (by have q := c185; rw [ha9, hb9] at q; exact q)) (hq193)
              refine lv_aload_n hx hb dX11_readLink_96 rfl (lv_at hl 2 rfl) ?_
              refine va_get (D := (dC, dI)) (ci := 11) (v := .int (y188 8)) (C := RX11) (T := TX11) (N := 61) hx hb hts hin11 hown hK hP 4 rfl rfl 22 (Nat.le_of_ble_eq_true rfl) hw_1 (fun _ h9 => h9) rfl dX11_readLink_97 ?_
              refine lv_if_eq (tgt := 104) hx hb dX11_readLink_100 rfl (fun c9 => absurd c9 (iv_ne hq190 ivk_0 (by decide))) (fun _ => ?_)
              have hPD9 := cl_s (wc := [(m0, .inr (11, oX11 ra y188)), (ra 2, .inl (kI, 8, .inl q_told)), (ra 8, .inl (kI, 40, .inl q_from)), (ra 9, .inl (kI, 40, .inl q_to)), (ra 13, .inl (kI, 700, .inl q_tape))]) hP hD [4, 3, 2, 0, 1] rfl (by decide +kernel)
              have hP9 := hPD9.1
              have hD9 := hPD9.2
              exact W.vret hx hb hr (fun t ht hW => ⟨⟨(), rfl, trivial, y188, q_told, q_from, q_to, hq189, hq_told, hq_from, hq_to, (show (x0 2).toInt ≤ (y188 2).toInt from by omega), (show y188 3 = x0 3 from hq192.trans (hq177.trans (hq166.trans (hq20.trans (hq10))))), (show ∀ j : Nat, (j : Int) < (q_told 1).toInt → (q_from j).toInt < (q_to j).toInt from hLT), (show ∀ j : Nat, (j : Int) < (q_told 5).toInt → (q_from (20 + j)).toInt < (q_to (20 + j)).toInt from hLD), (show RRd tT nN y188 (lnkS tT nN sS (q_told 4) (q_told 5) (shT 20 q_from) (shT 20 q_to)) from it_f (Q := RRd tT nN y188) c1 ((rr_stepN hrr196 (iv_ne hq190 ivk_0 (by decide))))), (show y188 8 = 0 → q_told = upd q_told 5 (q_told 5 + 1) ∧ q_from = upd q_from ((20 + (q_told 5)).toNatClampNeg) (lnkA tT nN sS) ∧ q_to = upd q_to ((20 + (q_told 5)).toNatClampNeg) (lnkB tT nN sS (q_told 4) (q_told 5) (shT 20 q_from)) from fun w => absurd w (iv_ne hq190 ivk_0 (by decide))), (show LowT q_told q_from q_to q_told q_from q_to from low_0), (show y188 1 = x0 1 from hq194.trans (hq179.trans (hq168.trans (hq22.trans (hq13))))), (show y188 10 = x0 10 from hq195.trans (hq180.trans (hq169.trans (hq23.trans (hq14))))), by rw [ht]; exact hP9, hD9⟩, hS.F ht⟩) hS.2.2 dX11_readLink_103
            · have b197 : iv 0 10 r15 := iv_ltL (Int32.not_le.mp c185) w16.1 w173.1 (by decide) (by decide)
              have b198 : iv 1 11 r172 := iv_ltR (Int32.not_le.mp c185) w16.1 w173.1 (by decide) (by decide)
              refine lv_aload_n hx hb dX11_readLink_82 rfl (lv_at hl 2 rfl) ?_
              refine lv_iload_n hx hb dX11_readLink_83 rfl (lv_at hl 1 rfl) ?_
              refine lv_iload_n hx hb dX11_readLink_84 rfl (lv_at hl 0 rfl) ?_
              obtain ⟨hPc, hDc, hFc, hJn⟩ := cl_a (wc := [(m0, .inr (11, oX11 ra y174)), (ra 2, .inl (kI, 8, .inl q_told)), (ra 8, .inl (kI, 40, .inl q_from)), (ra 9, .inl (kI, 40, .inl q_to))]) (wr := [(ra 13, .inl (kI, 700, .inl q_tape))]) hP hD hS hA [3, 4, 2, 0] [1] rfl rfl (by decide +kernel)
              refine va_calli (va_runV (As := [.int r15, .int r172]) (rest := []) ⟨hx, hb, hml, hown, hts⟩ (s11_hasLink l dC dI kB kI kJ kZ kC kS H.size m0 ra y174 q_told q_from q_to r15 r172 (hq175) (hq_told) (hq_from) (hq_to)) (cwV 2 hts gX11_readLink_X11_hasLink rfl rfl rfl (by decide +kernel) ⟨Nat.le_of_ble_eq_true rfl, Nat.le_of_ble_eq_true rfl⟩) ⟨fun a U g mk q => by obtain ⟨q0, q1, qP, qE, qD⟩ := q; exact ⟨q0, q1, qP, kE_call qE, qD⟩, va_recv hK hP (ci := 11) (q0 := 3) rfl rfl, fun U hU hW => ⟨rfl, by rw [hU], by rw [hU]; exact hPc, kE_warm hW hE, hDc.weaken (fun _ _ _ _ => trivial)⟩⟩ rfl rfl hl.1 rfl (lv_room (Nat.le_of_ble_eq_true rfl)) dX11_readLink_85 ⟨Nat.le_of_ble_eq_true rfl, Nat.le_of_ble_eq_true rfl⟩) hS (fun q _ h => hFc q h) hFc (fun r199 u t H locs ht hvm w200 hB hz1 hk1 hS => ?_)
              obtain ⟨hP1, hD1⟩ := hB
              try dsimp only at w200
              obtain ⟨hPa, hDa⟩ := hJn (w1 := [(m0, .inr (11, oX11 ra y174)), (ra 2, .inl (kI, 8, .inl q_told)), (ra 8, .inl (kI, 40, .inl q_from)), (ra 9, .inl (kI, 40, .inl q_to))]) hk1 ht hP1 hD1
              clear hP hD hPc hDc hFc hJn hP1 hD1 hk1
              have hP : va_P (dC, dI) vwCl [(ra 13, .inl (kI, 700, .inl q_tape)), (m0, .inr (11, oX11 ra y174)), (ra 2, .inl (kI, 8, .inl q_told)), (ra 8, .inl (kI, 40, .inl q_from)), (ra 9, .inl (kI, 40, .inl q_to))] H := hPa
              have hD : va_D A [(ra 13, .inl (kI, 700, .inl q_tape)), (m0, .inr (11, oX11 ra y174)), (ra 2, .inl (kI, 8, .inl q_told)), (ra 8, .inl (kI, 40, .inl q_from)), (ra 9, .inl (kI, 40, .inl q_to))] := hDa
              clear hPa hDa
              refine W.widen (k := 0) (n := 0) (Nat.le_of_ble_eq_true rfl) (Nat.le_of_ble_eq_true rfl) ?_
              have hh9 := w200.2
              refine lv_if_eq (tgt := 96) hx hb dX11_readLink_88 rfl (fun c201 => ?_) (fun c201 => ?_)
              · have b202 : iv 0 0 r199 := iv_eqL c201 ivk_0
                have hok9 := rr_ok hq178 c181
                have hb9 := hv8 hok9
                have ha9 := hv9 (ok_ite (ok_next (ok_num (ok_rou hok9)))).1
                have hrr203 : RRd tT nN y174 (iteT (lnkB tT nN sS (q_told 4) (q_told 5) (shT 20 q_from) ≤ lnkA tT nN sS ∨ hasT (shT 20 q_from) (shT 20 q_to) (q_told 5) (lnkA tT nN sS) (lnkB tT nN sS (q_told 4) (q_told 5) (shT 20 q_from))) (failT 5 (lnk3 tT nN sS (q_told 4) (q_told 5) (shT 20 q_from))) (lnk3 tT nN sS (q_told 4) (q_told 5) (shT 20 q_from))) := it_f (Q := RRd tT nN y174) (by have q := (hh9.resolve_right (fun w => w.1 c201)).2; have q2 := Int32.not_le.mpr (Int32.not_le.mp c185); rw [ha9, hb9] at q q2; exact fun w => w.elim q2 q) (hq178)
                refine lv_aload_n hx hb dX11_readLink_96 rfl (lv_at hl 2 rfl) ?_
                refine va_get (D := (dC, dI)) (ci := 11) (v := .int (y174 8)) (C := RX11) (T := TX11) (N := 61) hx hb hts hin11 hown hK hP 1 rfl rfl 22 (Nat.le_of_ble_eq_true rfl) hw_1 (fun _ h9 => h9) rfl dX11_readLink_97 ?_
                refine lv_if_eq (tgt := 104) hx hb dX11_readLink_100 rfl (fun _ => ?_) (fun c9 => absurd (c181) c9)
                refine lv_aload_n hx hb dX11_readLink_104 rfl (lv_at hl 2 rfl) ?_
                obtain ⟨hPc, hDc, hFc, hJn⟩ := cl_a (wc := [(m0, .inr (11, oX11 ra y174)), (ra 13, .inl (kI, 700, .inl q_tape))]) (wr := [(ra 2, .inl (kI, 8, .inl q_told)), (ra 8, .inl (kI, 40, .inl q_from)), (ra 9, .inl (kI, 40, .inl q_to))]) hP hD hS hA [1, 0] [2, 3, 4] rfl rfl (by decide +kernel)
                refine va_callv (va_runV (As := []) (rest := []) ⟨hx, hb, hml, hown, hts⟩ (s11_stepOn l dC dI kB kI kJ kZ kC kS H.size m0 ra y174 q_tape tT nN (nextT tT nN (iteT (lnkB tT nN sS (q_told 4) (q_told 5) (shT 20 q_from) ≤ lnkA tT nN sS ∨ hasT (shT 20 q_from) (shT 20 q_to) (q_told 5) (lnkA tT nN sS) (lnkB tT nN sS (q_told 4) (q_told 5) (shT 20 q_from))) (failT 5 (lnk3 tT nN sS (q_told 4) (q_told 5) (shT 20 q_from))) (lnk3 tT nN sS (q_told 4) (q_told 5) (shT 20 q_from)))) (hq175) (hq_tape) (hrr203.2) (stp_of hrr203) (hTQ)) (cwV 0 hts gX11_readLink_X11_stepOn rfl rfl rfl (by decide +kernel) ⟨Nat.le_of_ble_eq_true rfl, Nat.le_of_ble_eq_true rfl⟩) ⟨fun a U g mk q => by obtain ⟨q0, q1, qP, qE, qD⟩ := q; exact ⟨q0, q1, qP, kE_call qE, qD⟩, va_recv hK hP (ci := 11) (q0 := 1) rfl rfl, fun U hU hW => ⟨rfl, by rw [hU], by rw [hU]; exact hPc, kE_warm hW hE, hDc.weaken (fun _ _ _ _ => trivial)⟩⟩ rfl rfl hl.1 rfl (lv_room (Nat.le_of_ble_eq_true rfl)) dX11_readLink_105 ⟨Nat.le_of_ble_eq_true rfl, Nat.le_of_ble_eq_true rfl⟩) hS (fun q _ h => hFc q h) hFc (fun u t H locs ht hvm w205 hB hz1 hk1 hS => ?_)
                obtain ⟨y206, hq207, hq208, hq209, hq210, hq211, hq212, hq213, hP1, hD1⟩ := hB
                try dsimp only at w205
                obtain ⟨hPa, hDa⟩ := hJn (w1 := [(m0, .inr (11, oX11 ra y206)), (ra 13, .inl (kI, 700, .inl q_tape))]) hk1 ht hP1 hD1
                clear hP hD hPc hDc hFc hJn hP1 hD1 hk1
                have hP : va_P (dC, dI) vwCl [(ra 2, .inl (kI, 8, .inl q_told)), (ra 8, .inl (kI, 40, .inl q_from)), (ra 9, .inl (kI, 40, .inl q_to)), (m0, .inr (11, oX11 ra y206)), (ra 13, .inl (kI, 700, .inl q_tape))] H := hPa
                have hD : va_D A [(ra 2, .inl (kI, 8, .inl q_told)), (ra 8, .inl (kI, 40, .inl q_from)), (ra 9, .inl (kI, 40, .inl q_to)), (m0, .inr (11, oX11 ra y206)), (ra 13, .inl (kI, 700, .inl q_tape))] := hDa
                clear hPa hDa
                refine W.widen (k := 0) (n := 0) (Nat.le_of_ble_eq_true rfl) (Nat.le_of_ble_eq_true rfl) ?_
                refine lv_aload_n hx hb dX11_readLink_108 rfl (lv_at hl 2 rfl) ?_
                refine va_get (D := (dC, dI)) (ci := 11) (v := .ref (ra 8)) (C := RX11) (T := TX11) (N := 61) hx hb hts hin11 hown hK hP 3 rfl rfl 9 (Nat.le_of_ble_eq_true rfl) hw_2 (fun _ h9 => h9) rfl dX11_readLink_109 ?_
                refine lv_bipush (v := 20) hx hb dX11_readLink_112 bp_20 ?_
                refine lv_aload_n hx hb dX11_readLink_114 rfl (lv_at hl 2 rfl) ?_
                refine va_get (D := (dC, dI)) (ci := 11) (v := .ref (ra 2)) (C := RX11) (T := TX11) (N := 61) hx hb hts hin11 hown hK hP 3 rfl rfl 3 (Nat.le_of_ble_eq_true rfl) hw_0 (fun _ h9 => h9) rfl dX11_readLink_115 ?_
                refine lv_iconst (v := 5) hx hb dX11_readLink_118 ic_5 ?_
                refine va_iald hx hb hK hP 0 1 rfl rfl (vp_in_nI (n := 5) (by decide) (by decide)) dX11_readLink_119 ?_
                refine W.eq (g2 := F0 m 120 ls [.int (q_told 5), .int 20, .ref (ra 8)]) rfl ?_
                refine lv_iadd hx hb dX11_readLink_120 ?_
                have b214 : iv 20 39 (20 + (q_told 5)) := iv_add ivk_20 b2 (by decide) (by decide) (by decide) (by decide)
                refine lv_iload_n hx hb dX11_readLink_121 rfl (lv_at hl 1 rfl) ?_
                refine va_iast hx hb hK hP hD hS 1 1 rfl rfl (iv_in b214 (by decide) (by decide)) dX11_readLink_122 (fun H locs hPa hDa hS => ?_)
                clear hP hD
                have hP : va_P (dC, dI) vwCl [(ra 2, .inl (kI, 8, .inl q_told)), (ra 8, .inl (kI, 40, .inl (upd q_from (20 + (q_told 5)).toNatClampNeg r15))), (ra 9, .inl (kI, 40, .inl q_to)), (m0, .inr (11, oX11 ra y206)), (ra 13, .inl (kI, 700, .inl q_tape))] H := hPa
                have hD : va_D A [(ra 2, .inl (kI, 8, .inl q_told)), (ra 8, .inl (kI, 40, .inl (upd q_from (20 + (q_told 5)).toNatClampNeg r15))), (ra 9, .inl (kI, 40, .inl q_to)), (m0, .inr (11, oX11 ra y206)), (ra 13, .inl (kI, 700, .inl q_tape))] := hDa
                clear hPa hDa
                refine lv_aload_n hx hb dX11_readLink_123 rfl (lv_at hl 2 rfl) ?_
                refine va_get (D := (dC, dI)) (ci := 11) (v := .ref (ra 9)) (C := RX11) (T := TX11) (N := 61) hx hb hts hin11 hown hK hP 3 rfl rfl 10 (Nat.le_of_ble_eq_true rfl) hw_3 (fun _ h9 => h9) rfl dX11_readLink_124 ?_
                refine lv_bipush (v := 20) hx hb dX11_readLink_127 bp_20 ?_
                refine lv_aload_n hx hb dX11_readLink_129 rfl (lv_at hl 2 rfl) ?_
                refine va_get (D := (dC, dI)) (ci := 11) (v := .ref (ra 2)) (C := RX11) (T := TX11) (N := 61) hx hb hts hin11 hown hK hP 3 rfl rfl 3 (Nat.le_of_ble_eq_true rfl) hw_0 (fun _ h9 => h9) rfl dX11_readLink_130 ?_
                refine lv_iconst (v := 5) hx hb dX11_readLink_133 ic_5 ?_
                refine va_iald hx hb hK hP 0 1 rfl rfl (vp_in_nI (n := 5) (by decide) (by decide)) dX11_readLink_134 ?_
                refine W.eq (g2 := F0 m 135 ls [.int (q_told 5), .int 20, .ref (ra 9)]) rfl ?_
                refine lv_iadd hx hb dX11_readLink_135 ?_
                have b215 : iv 20 39 (20 + (q_told 5)) := iv_add ivk_20 b2 (by decide) (by decide) (by decide) (by decide)
                refine lv_iload_n hx hb dX11_readLink_136 rfl (lv_at hl 0 rfl) ?_
                refine va_iast hx hb hK hP hD hS 2 1 rfl rfl (iv_in b215 (by decide) (by decide)) dX11_readLink_137 (fun H locs hPa hDa hS => ?_)
                clear hP hD
                have hP : va_P (dC, dI) vwCl [(ra 2, .inl (kI, 8, .inl q_told)), (ra 8, .inl (kI, 40, .inl (upd q_from (20 + (q_told 5)).toNatClampNeg r15))), (ra 9, .inl (kI, 40, .inl (upd q_to (20 + (q_told 5)).toNatClampNeg r172))), (m0, .inr (11, oX11 ra y206)), (ra 13, .inl (kI, 700, .inl q_tape))] H := hPa
                have hD : va_D A [(ra 2, .inl (kI, 8, .inl q_told)), (ra 8, .inl (kI, 40, .inl (upd q_from (20 + (q_told 5)).toNatClampNeg r15))), (ra 9, .inl (kI, 40, .inl (upd q_to (20 + (q_told 5)).toNatClampNeg r172))), (m0, .inr (11, oX11 ra y206)), (ra 13, .inl (kI, 700, .inl q_tape))] := hDa
                clear hPa hDa
                refine lv_aload_n hx hb dX11_readLink_138 rfl (lv_at hl 2 rfl) ?_
                refine va_get (D := (dC, dI)) (ci := 11) (v := .ref (ra 2)) (C := RX11) (T := TX11) (N := 61) hx hb hts hin11 hown hK hP 3 rfl rfl 3 (Nat.le_of_ble_eq_true rfl) hw_0 (fun _ h9 => h9) rfl dX11_readLink_139 ?_
                refine lv_iconst (v := 5) hx hb dX11_readLink_142 ic_5 ?_
                refine lv_dup2_11 hx hb dX11_readLink_143 rfl rfl ?_
                refine va_iald hx hb hK hP 0 1 rfl rfl (vp_in_nI (n := 5) (by decide) (by decide)) dX11_readLink_144 ?_
                refine W.eq (g2 := F0 m 145 ls [.int (q_told 5), .int 5, .ref (ra 2)]) rfl ?_
                refine lv_iconst (v := 1) hx hb dX11_readLink_145 ic_1 ?_
                refine lv_iadd hx hb dX11_readLink_146 ?_
                have b216 : iv 1 20 ((q_told 5) + 1) := iv_add b2 ivk_1 (by decide) (by decide) (by decide) (by decide)
                refine va_iast hx hb hK hP hD hS 0 1 rfl rfl (vp_in_nI (n := 5) (by decide) (by decide)) dX11_readLink_147 (fun H locs hPa hDa hS => ?_)
                clear hP hD
                have hP : va_P (dC, dI) vwCl [(ra 2, .inl (kI, 8, .inl (upd q_told 5 ((q_told 5) + 1)))), (ra 8, .inl (kI, 40, .inl (upd q_from (20 + (q_told 5)).toNatClampNeg r15))), (ra 9, .inl (kI, 40, .inl (upd q_to (20 + (q_told 5)).toNatClampNeg r172))), (m0, .inr (11, oX11 ra y206)), (ra 13, .inl (kI, 700, .inl q_tape))] H := hPa
                have hD : va_D A [(ra 2, .inl (kI, 8, .inl (upd q_told 5 ((q_told 5) + 1)))), (ra 8, .inl (kI, 40, .inl (upd q_from (20 + (q_told 5)).toNatClampNeg r15))), (ra 9, .inl (kI, 40, .inl (upd q_to (20 + (q_told 5)).toNatClampNeg r172))), (m0, .inr (11, oX11 ra y206)), (ra 13, .inl (kI, 700, .inl q_tape))] := hDa
                clear hPa hDa
                have hPD9 := cl_s (wc := [(m0, .inr (11, oX11 ra y206)), (ra 2, .inl (kI, 8, .inl (upd q_told 5 ((q_told 5) + 1)))), (ra 8, .inl (kI, 40, .inl (upd q_from (20 + (q_told 5)).toNatClampNeg r15))), (ra 9, .inl (kI, 40, .inl (upd q_to (20 + (q_told 5)).toNatClampNeg r172))), (ra 13, .inl (kI, 700, .inl q_tape))]) hP hD [3, 0, 1, 2, 4] rfl (by decide +kernel)
                have hP9 := hPD9.1
                have hD9 := hPD9.2
                exact W.vret hx hb hr (fun t ht hW => ⟨⟨(), rfl, trivial, y206, upd q_told 5 ((q_told 5) + 1), upd q_from (20 + (q_told 5)).toNatClampNeg r15, upd q_to (20 + (q_told 5)).toNatClampNeg r172, hq207, (fI_u hq_told (k := 5) ((iv_w b216 (by decide) (by decide)))), (fI_u hq_from (k := (20 + (q_told 5)).toNatClampNeg) ((iv_w b197 (by decide) (by decide)))), (fI_u hq_to (k := (20 + (q_told 5)).toNatClampNeg) ((iv_w b198 (by decide) (by decide)))), (show (x0 2).toInt ≤ (y206 2).toInt from by omega), (show y206 3 = x0 3 from hq209.trans (hq177.trans (hq166.trans (hq20.trans (hq10))))), lk_lt hLT (hq_told 1) (hq_told 5), lk_ld hLD b2 (Int32.not_le.mp c185), (show RRd tT nN y206 (lnkS tT nN sS (q_told 4) (q_told 5) (shT 20 q_from) (shT 20 q_to)) from it_f (Q := RRd tT nN y206) c1 (hq211)), fun _ => ⟨rfl, congrArg (upd q_from ((20 + (q_told 5)).toNatClampNeg)) (hv9 (ok_ite (ok_next (ok_num (ok_rou (ok_ite (rr_ok hrr203 c181)).1)))).1), congrArg (upd q_to ((20 + (q_told 5)).toNatClampNeg)) (hv8 (ok_ite (rr_ok hrr203 c181)).1)⟩, low_l (by decide) (iv_w b2 (by decide) (by decide)), (show y206 1 = x0 1 from hq212.trans (hq179.trans (hq168.trans (hq22.trans (hq13))))), (show y206 10 = x0 10 from hq213.trans (hq180.trans (hq169.trans (hq23.trans (hq14))))), by rw [ht]; exact hP9, hD9⟩, hS.F ht⟩) hS.2.2 dX11_readLink_148
              · have b217 : iv 1 1 r199 := iv_neLo c201 w200.1 ivk_0 (by decide) (by decide)
                refine lv_aload_n hx hb dX11_readLink_91 rfl (lv_at hl 2 rfl) ?_
                refine lv_iconst (v := 5) hx hb dX11_readLink_92 ic_5 ?_
                obtain ⟨hPc, hDc, hFc, hJn⟩ := cl_a (wc := [(m0, .inr (11, oX11 ra y174))]) (wr := [(ra 13, .inl (kI, 700, .inl q_tape)), (ra 2, .inl (kI, 8, .inl q_told)), (ra 8, .inl (kI, 40, .inl q_from)), (ra 9, .inl (kI, 40, .inl q_to))]) hP hD hS hA [1] [0, 2, 3, 4] rfl rfl (by decide +kernel)
                refine va_callv (va_runV (As := [.int 5]) (rest := []) ⟨hx, hb, hml, hown, hts⟩ (s11_wrong l dC dI kB kI kJ kZ kC kS H.size m0 ra y174 5 tT nN (rouT tT (q_told 4) (lnk2 tT nN sS (q_told 4) (q_told 5) (shT 20 q_from))) (hq175) ((iv_w ivk_5 (by decide) (by decide))) (hq178)) (cwV 1 hts gX11_readLink_X11_wrong rfl rfl rfl (by decide +kernel) ⟨Nat.le_of_ble_eq_true rfl, Nat.le_of_ble_eq_true rfl⟩) ⟨fun a U g mk q => by obtain ⟨q0, q1, qP, qE, qD⟩ := q; exact ⟨q0, q1, qP, kE_call qE, qD⟩, va_recv hK hP (ci := 11) (q0 := 1) rfl rfl, fun U hU hW => ⟨rfl, by rw [hU], by rw [hU]; exact hPc, kE_warm hW hE, hDc.weaken (fun _ _ _ _ => trivial)⟩⟩ rfl rfl hl.1 rfl (lv_room (Nat.le_of_ble_eq_true rfl)) dX11_readLink_93 ⟨Nat.le_of_ble_eq_true rfl, Nat.le_of_ble_eq_true rfl⟩) hS (fun q _ h => hFc q h) hFc (fun u t H locs ht hvm w219 hB hz1 hk1 hS => ?_)
                obtain ⟨y220, hq221, hq222, hq223, hq224, hq225, hq226, hq227, hP1, hD1⟩ := hB
                try dsimp only at w219
                obtain ⟨hPa, hDa⟩ := hJn (w1 := [(m0, .inr (11, oX11 ra y220))]) hk1 ht hP1 hD1
                clear hP hD hPc hDc hFc hJn hP1 hD1 hk1
                have hP : va_P (dC, dI) vwCl [(ra 13, .inl (kI, 700, .inl q_tape)), (ra 2, .inl (kI, 8, .inl q_told)), (ra 8, .inl (kI, 40, .inl q_from)), (ra 9, .inl (kI, 40, .inl q_to)), (m0, .inr (11, oX11 ra y220))] H := hPa
                have hD : va_D A [(ra 13, .inl (kI, 700, .inl q_tape)), (ra 2, .inl (kI, 8, .inl q_told)), (ra 8, .inl (kI, 40, .inl q_from)), (ra 9, .inl (kI, 40, .inl q_to)), (m0, .inr (11, oX11 ra y220))] := hDa
                clear hPa hDa
                refine W.widen (k := 0) (n := 0) (Nat.le_of_ble_eq_true rfl) (Nat.le_of_ble_eq_true rfl) ?_
                have hok9 := rr_ok hq178 c181
                have hb9 := hv8 hok9
                have ha9 := hv9 (ok_ite (ok_next (ok_num (ok_rou hok9)))).1
                have hrr228 : RRd tT nN y220 (iteT (lnkB tT nN sS (q_told 4) (q_told 5) (shT 20 q_from) ≤ lnkA tT nN sS ∨ hasT (shT 20 q_from) (shT 20 q_to) (q_told 5) (lnkA tT nN sS) (lnkB tT nN sS (q_told 4) (q_told 5) (shT 20 q_from))) (failT 5 (lnk3 tT nN sS (q_told 4) (q_told 5) (shT 20 q_from))) (lnk3 tT nN sS (q_told 4) (q_told 5) (shT 20 q_from))) := it_t (Q := RRd tT nN y220) (Or.inr (by have q := (hh9.resolve_left (fun w => c201 w.1)).2; rw [ha9, hb9] at q; exact q)) (hq225)
                refine lv_aload_n hx hb dX11_readLink_96 rfl (lv_at hl 2 rfl) ?_
                refine va_get (D := (dC, dI)) (ci := 11) (v := .int (y220 8)) (C := RX11) (T := TX11) (N := 61) hx hb hts hin11 hown hK hP 4 rfl rfl 22 (Nat.le_of_ble_eq_true rfl) hw_1 (fun _ h9 => h9) rfl dX11_readLink_97 ?_
                refine lv_if_eq (tgt := 104) hx hb dX11_readLink_100 rfl (fun c9 => absurd c9 (iv_ne hq222 ivk_0 (by decide))) (fun _ => ?_)
                have hPD9 := cl_s (wc := [(m0, .inr (11, oX11 ra y220)), (ra 2, .inl (kI, 8, .inl q_told)), (ra 8, .inl (kI, 40, .inl q_from)), (ra 9, .inl (kI, 40, .inl q_to)), (ra 13, .inl (kI, 700, .inl q_tape))]) hP hD [4, 1, 2, 3, 0] rfl (by decide +kernel)
                have hP9 := hPD9.1
                have hD9 := hPD9.2
                exact W.vret hx hb hr (fun t ht hW => ⟨⟨(), rfl, trivial, y220, q_told, q_from, q_to, hq221, hq_told, hq_from, hq_to, (show (x0 2).toInt ≤ (y220 2).toInt from by omega), (show y220 3 = x0 3 from hq224.trans (hq177.trans (hq166.trans (hq20.trans (hq10))))), (show ∀ j : Nat, (j : Int) < (q_told 1).toInt → (q_from j).toInt < (q_to j).toInt from hLT), (show ∀ j : Nat, (j : Int) < (q_told 5).toInt → (q_from (20 + j)).toInt < (q_to (20 + j)).toInt from hLD), (show RRd tT nN y220 (lnkS tT nN sS (q_told 4) (q_told 5) (shT 20 q_from) (shT 20 q_to)) from it_f (Q := RRd tT nN y220) c1 ((rr_stepN hrr228 (iv_ne hq222 ivk_0 (by decide))))), (show y220 8 = 0 → q_told = upd q_told 5 (q_told 5 + 1) ∧ q_from = upd q_from ((20 + (q_told 5)).toNatClampNeg) (lnkA tT nN sS) ∧ q_to = upd q_to ((20 + (q_told 5)).toNatClampNeg) (lnkB tT nN sS (q_told 4) (q_told 5) (shT 20 q_from)) from fun w => absurd w (iv_ne hq222 ivk_0 (by decide))), (show LowT q_told q_from q_to q_told q_from q_to from low_0), (show y220 1 = x0 1 from hq226.trans (hq179.trans (hq168.trans (hq22.trans (hq13))))), (show y220 10 = x0 10 from hq227.trans (hq180.trans (hq169.trans (hq23.trans (hq14))))), by rw [ht]; exact hP9, hD9⟩, hS.F ht⟩) hS.2.2 dX11_readLink_103
    · have b229 : iv 1 5 (x0 8) := iv_neLo c3 (hX 8 : iv 0 5 (x0 8)) ivk_0 (by decide) (by decide)
      have hP9 := hP
      have hD9 := hD
      exact W.vret hx hb hr (fun t ht hW => ⟨⟨(), rfl, trivial, x0, q_told, q_from, q_to, hX, hq_told, hq_from, hq_to, (show (x0 2).toInt ≤ (x0 2).toInt from by omega), (show x0 3 = x0 3 from rfl), (show ∀ j : Nat, (j : Int) < (q_told 1).toInt → (q_from j).toInt < (q_to j).toInt from hLT), (show ∀ j : Nat, (j : Int) < (q_told 5).toInt → (q_from (20 + j)).toInt < (q_to (20 + j)).toInt from hLD), (show RRd tT nN x0 (lnkS tT nN sS (q_told 4) (q_told 5) (shT 20 q_from) (shT 20 q_to)) from (lk_in hRr c3) ▸ hRr), (show x0 8 = 0 → q_told = upd q_told 5 (q_told 5 + 1) ∧ q_from = upd q_from ((20 + (q_told 5)).toNatClampNeg) (lnkA tT nN sS) ∧ q_to = upd q_to ((20 + (q_told 5)).toNatClampNeg) (lnkB tT nN sS (q_told 4) (q_told 5) (shT 20 q_from)) from fun w => absurd w c3), (show LowT q_told q_from q_to q_told q_from q_to from low_0), (show x0 1 = x0 1 from rfl), (show x0 10 = x0 10 from rfl), by rw [ht]; exact hP9, hD9⟩, hS.F ht⟩) hS.2.2 dX11_readLink_23
  · have b230 : iv 20 20 (q_told 5) := iv_eqL c1 ivk_20
    refine lv_aload_n hx hb dX11_readLink_11 rfl (lv_at hl 0 rfl) ?_
    refine lv_iconst (v := 2) hx hb dX11_readLink_12 ic_2 ?_
    obtain ⟨hPc, hDc, hFc, hJn⟩ := cl_a (wc := [(m0, .inr (11, oX11 ra x0))]) (wr := [(ra 2, .inl (kI, 8, .inl q_told)), (ra 8, .inl (kI, 40, .inl q_from)), (ra 9, .inl (kI, 40, .inl q_to)), (ra 13, .inl (kI, 700, .inl q_tape))]) hP hD hS hA [0] [1, 2, 3, 4] rfl rfl (by decide +kernel)
    refine va_callv (va_runV (As := [.int 2]) (rest := []) ⟨hx, hb, hml, hown, hts⟩ (s11_wrong l dC dI kB kI kJ kZ kC kS s.heap.size m0 ra x0 2 tT nN sS (hX) ((iv_w ivk_2 (by decide) (by decide))) (hRr)) (cwV 1 hts gX11_readLink_X11_wrong rfl rfl rfl (by decide +kernel) ⟨Nat.le_of_ble_eq_true rfl, Nat.le_of_ble_eq_true rfl⟩) ⟨fun a U g mk q => by obtain ⟨q0, q1, qP, qE, qD⟩ := q; exact ⟨q0, q1, qP, kE_call qE, qD⟩, va_recv hK hP (ci := 11) (q0 := 0) rfl rfl, fun U hU hW => ⟨rfl, by rw [hU], by rw [hU]; exact hPc, kE_warm hW hE, hDc.weaken (fun _ _ _ _ => trivial)⟩⟩ rfl rfl hl.1 rfl (lv_room (Nat.le_of_ble_eq_true rfl)) dX11_readLink_13 ⟨Nat.le_of_ble_eq_true rfl, Nat.le_of_ble_eq_true rfl⟩) hS (fun q _ h => hFc q h) hFc (fun u t H locs ht hvm w232 hB hz1 hk1 hS => ?_)
    obtain ⟨y233, hq234, hq235, hq236, hq237, hq238, hq239, hq240, hP1, hD1⟩ := hB
    try dsimp only at w232
    obtain ⟨hPa, hDa⟩ := hJn (w1 := [(m0, .inr (11, oX11 ra y233))]) hk1 ht hP1 hD1
    clear hP hD hPc hDc hFc hJn hP1 hD1 hk1
    have hP : va_P (dC, dI) vwCl [(ra 2, .inl (kI, 8, .inl q_told)), (ra 8, .inl (kI, 40, .inl q_from)), (ra 9, .inl (kI, 40, .inl q_to)), (ra 13, .inl (kI, 700, .inl q_tape)), (m0, .inr (11, oX11 ra y233))] H := hPa
    have hD : va_D A [(ra 2, .inl (kI, 8, .inl q_told)), (ra 8, .inl (kI, 40, .inl q_from)), (ra 9, .inl (kI, 40, .inl q_to)), (ra 13, .inl (kI, 700, .inl q_tape)), (m0, .inr (11, oX11 ra y233))] := hDa
    clear hPa hDa
    refine W.widen (k := 0) (n := 0) (Nat.le_of_ble_eq_true rfl) (Nat.le_of_ble_eq_true rfl) ?_
    refine lv_aload_n hx hb dX11_readLink_16 rfl (lv_at hl 0 rfl) ?_
    refine va_get (D := (dC, dI)) (ci := 11) (v := .int (y233 8)) (C := RX11) (T := TX11) (N := 61) hx hb hts hin11 hown hK hP 4 rfl rfl 22 (Nat.le_of_ble_eq_true rfl) hw_1 (fun _ h9 => h9) rfl dX11_readLink_17 ?_
    refine lv_if_eq (tgt := 24) hx hb dX11_readLink_20 rfl (fun c9 => absurd c9 (iv_ne hq235 ivk_0 (by decide))) (fun _ => ?_)
    have hPD9 := cl_s (wc := [(m0, .inr (11, oX11 ra y233)), (ra 2, .inl (kI, 8, .inl q_told)), (ra 8, .inl (kI, 40, .inl q_from)), (ra 9, .inl (kI, 40, .inl q_to)), (ra 13, .inl (kI, 700, .inl q_tape))]) hP hD [4, 0, 1, 2, 3] rfl (by decide +kernel)
    have hP9 := hPD9.1
    have hD9 := hPD9.2
    exact W.vret hx hb hr (fun t ht hW => ⟨⟨(), rfl, trivial, y233, q_told, q_from, q_to, hq234, hq_told, hq_from, hq_to, (show (x0 2).toInt ≤ (y233 2).toInt from by omega), (show y233 3 = x0 3 from hq237), (show ∀ j : Nat, (j : Int) < (q_told 1).toInt → (q_from j).toInt < (q_to j).toInt from hLT), (show ∀ j : Nat, (j : Int) < (q_told 5).toInt → (q_from (20 + j)).toInt < (q_to (20 + j)).toInt from hLD), (show RRd tT nN y233 (lnkS tT nN sS (q_told 4) (q_told 5) (shT 20 q_from) (shT 20 q_to)) from it_t (Q := RRd tT nN y233) c1 (hq238)), (show y233 8 = 0 → q_told = upd q_told 5 (q_told 5 + 1) ∧ q_from = upd q_from ((20 + (q_told 5)).toNatClampNeg) (lnkA tT nN sS) ∧ q_to = upd q_to ((20 + (q_told 5)).toNatClampNeg) (lnkB tT nN sS (q_told 4) (q_told 5) (shT 20 q_from)) from fun w => absurd w (rr_nf hq238)), (show LowT q_told q_from q_to q_told q_from q_to from low_0), (show y233 1 = x0 1 from hq239), (show y233 10 = x0 10 from hq240), by rw [ht]; exact hP9, hD9⟩, hS.F ht⟩) hS.2.2 dX11_readLink_23
