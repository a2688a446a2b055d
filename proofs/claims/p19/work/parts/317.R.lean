def rm_s11_isRouter : Room := { frames := 1, cells := 0, slots := 0, locals := 22 }
set_option maxHeartbeats 4000000 in
set_option maxRecDepth 100000 in
theorem s11_isRouter (l : Launch) (dC : Nat → ClassId) (dI : Nat → Nat → Nat) (kB kI kJ kZ kC kS : ClassId) (sz : Nat) (m0 : Nat) (ra : Nat → Nat) (x0 : Nat → Int32) (q_told : Nat → Int32) (p0 : Int32) (hX : fI lX11 hX11 x0) (hq_told : fI lTold hTold q_told) : Met l yX11_isRouter wsX11_isRouter rm_s11_isRouter (va_Pc [.ref m0, .int p0] (fun U => U.heap.size = sz ∧ va_P (dC, dI) vwCl [(m0, .inr (11, oX11 ra x0)), (ra 2, .inl (kI, 8, .inl q_told))] U.heap ∧ kE dC dI kB kI kJ kZ kC kS U ∧ va_D (fun _ => True) [(m0, .inr (11, oX11 ra x0)), (ra 2, .inl (kI, 8, .inl q_told))])) (va_Qi (fun (r : Int32) (_ : Unit) => iv 0 1 r ∧ (r = 0 ∨ iv 0 11 p0)) (fun _ t => va_P (dC, dI) vwCl [(m0, .inr (11, oX11 ra x0)), (ra 2, .inl (kI, 8, .inl q_told))] t.heap ∧ va_D (va_A [(m0, .inr (11, oX11 ra x0)), (ra 2, .inl (kI, 8, .inl q_told))] sz) [(m0, .inr (11, oX11 ra x0)), (ra 2, .inl (kI, 8, .inl q_told))]) (va_A [(m0, .inr (11, oX11 ra x0)), (ra 2, .inl (kI, 8, .inl q_told))] sz)) 0 0 (va_A [(m0, .inr (11, oX11 ra x0)), (ra 2, .inl (kI, 8, .inl q_told))] sz) := by
  refine Met.ofW (cc := cX11_isRouter) (maxL := 2) (ret := (some .boolean)) (by decide) rfl ?_
  intro p e s m args0 below meth c s₁ B hml hv
  obtain ⟨hargs, hsz, hP, hE, hD0⟩ := hv
  have hx := B.exec
  have hb := B.bytes
  have hr := B.returns
  have hts := atoms_spec (ws := wsX11_isRouter) B.pre
  have hown : s.vm.findClass RX11 = some m.cls := findClass_of_methodNamed B.named
  have hlocks := B.notSynchronized
  have hK := hE.1
  have hin11 : ∀ w ∈ wsX110, w ∈ wsX11_isRouter := fun _ h9 => List.mem_cons_of_mem _ (List.mem_append_right _ h9)
  subst hsz
  have hD := hD0.self (sz := s.heap.size)
  generalize hAe : va_A [(m0, .inr (11, oX11 ra x0)), (ra 2, .inl (kI, 8, .inl q_told))] s.heap.size = A at hD ⊢
  have hA : ∀ q : Nat, s.heap.size ≤ q → A q := fun q h => by rw [← hAe]; exact Or.inr h
  have hS : va_S A s.heap s.heap [] := va_S.rf
  have hP : va_P (dC, dI) vwCl [(m0, .inr (11, oX11 ra x0)), (ra 2, .inl (kI, 8, .inl q_told))] s.heap := hP
  have hl := lv_entry ([.ref m0, .int p0]) (n := 2) (Nat.le_of_ble_eq_true rfl)
  have hla : entryFrame m args0 2 = entryFrame m ([.ref m0, .int p0] : List Value).toArray 2 := by rw [hargs]
  rw [hla, lg_entry_eq]
  generalize (lg_sl ([.ref m0, .int p0]) ++ List.replicate (2 - (lg_sl ([.ref m0, .int p0])).length) Slot.unset).toArray = ls at hl ⊢
  have hl : lv_has ls 2 [(0, .ref m0), (1, .int p0)] := hl
  refine lv_iload_n hx hb dX11_isRouter_0 rfl (lv_at hl 1 rfl) ?_
  refine lv_iconst (v := 0) hx hb dX11_isRouter_1 ic_0 ?_
  refine lv_aload_n hx hb dX11_isRouter_2 rfl (lv_at hl 0 rfl) ?_
  obtain ⟨hPc, hDc, hFc, hJn⟩ := cl_a (wc := [(m0, .inr (11, oX11 ra x0)), (ra 2, .inl (kI, 8, .inl q_told))]) (wr := []) hP hD hS hA [0, 1] [] rfl rfl (by decide +kernel)
  refine va_calli (va_runV (As := []) (rest := [.int 0, .int p0]) ⟨hx, hb, hml, hown, hts⟩ (s11_routers l dC dI kB kI kJ kZ kC kS s.heap.size m0 ra x0 q_told (hX) (hq_told)) (cwV 0 hts gX11_isRouter_X11_routers rfl rfl rfl (by decide +kernel) ⟨Nat.le_of_ble_eq_true rfl, Nat.le_of_ble_eq_true rfl⟩) ⟨fun a U g mk q => by obtain ⟨q0, q1, qP, qE, qD⟩ := q; exact ⟨q0, q1, qP, kE_call qE, qD⟩, va_recv hK hP (ci := 11) (q0 := 0) rfl rfl, fun U hU hW => ⟨rfl, by rw [hU], by rw [hU]; exact hPc, kE_warm hW hE, hDc.weaken (fun _ _ _ _ => trivial)⟩⟩ rfl rfl hl.1 rfl (lv_room (Nat.le_of_ble_eq_true rfl)) dX11_isRouter_3 ⟨Nat.le_of_ble_eq_true rfl, Nat.le_of_ble_eq_true rfl⟩) hS (fun q _ h => hFc q h) hFc (fun r1 u t H locs ht hvm w2 hB hz1 hk1 hS => ?_)
  obtain ⟨hP1, hD1⟩ := hB
  try dsimp only at w2
  obtain ⟨hPa, hDa⟩ := hJn (w1 := [(m0, .inr (11, oX11 ra x0)), (ra 2, .inl (kI, 8, .inl q_told))]) hk1 ht hP1 hD1
  clear hP hD hPc hDc hFc hJn hP1 hD1 hk1
  have hP : va_P (dC, dI) vwCl [(m0, .inr (11, oX11 ra x0)), (ra 2, .inl (kI, 8, .inl q_told))] H := hPa
  have hD : va_D A [(m0, .inr (11, oX11 ra x0)), (ra 2, .inl (kI, 8, .inl q_told))] := hDa
  clear hPa hDa
  refine W.widen (k := 0) (n := 0) (Nat.le_of_ble_eq_true rfl) (Nat.le_of_ble_eq_true rfl) ?_
  subst w2
  refine lv_iconst (v := 1) hx hb dX11_isRouter_6 ic_1 ?_
  refine lv_isub hx hb dX11_isRouter_7 ?_
  refine iv_top (a := (-1)) (b := 11) (iv_sub (hq_told 0 : iv 0 12 (q_told 0)) ivk_1 (by decide) (by decide) (by decide) (by decide)) (fun z3 b4 => ?_)
  obtain ⟨hPc, hDc, hFc, hJn⟩ := cl_a (wc := []) (wr := [(m0, .inr (11, oX11 ra x0)), (ra 2, .inl (kI, 8, .inl q_told))]) hP hD hS hA [] [0, 1] rfl rfl (by decide +kernel)
  refine va_calli (va_runS (As := [.int p0, .int 0, .int z3]) (rest := []) ⟨hx, hb, hml, hown, hts⟩ (s11_isIn l dC dI kB kI kJ kZ kC kS H.size p0 0 z3) (va_cwS 3 hts gX11_isRouter_X11_isIn rfl rfl rfl (by decide +kernel) ⟨Nat.le_of_ble_eq_true rfl, Nat.le_of_ble_eq_true rfl⟩) ⟨fun a U g mk q => by obtain ⟨q0, q1, qP, qE, qD⟩ := q; exact ⟨q0, q1, qP, kE_call qE, qD⟩, fun U hU hW => ⟨rfl, by rw [hU], by rw [hU]; exact hPc, kE_warm hW hE, hDc.weaken (fun _ _ _ _ => trivial)⟩⟩ rfl rfl hl.1 rfl (lv_room (Nat.le_of_ble_eq_true rfl)) dX11_isRouter_8 ⟨Nat.le_of_ble_eq_true rfl, Nat.le_of_ble_eq_true rfl⟩) hS (fun q _ h => hFc q h) hFc (fun r5 u t H locs ht hvm w6 hB hz1 hk1 hS => ?_)
  obtain ⟨hP1, hD1⟩ := hB
  try dsimp only at w6
  obtain ⟨hPa, hDa⟩ := hJn (w1 := []) hk1 ht hP1 hD1
  clear hP hD hPc hDc hFc hJn hP1 hD1 hk1
  have hP : va_P (dC, dI) vwCl [(m0, .inr (11, oX11 ra x0)), (ra 2, .inl (kI, 8, .inl q_told))] H := hPa
  have hD : va_D A [(m0, .inr (11, oX11 ra x0)), (ra 2, .inl (kI, 8, .inl q_told))] := hDa
  clear hPa hDa
  refine W.widen (k := 0) (n := 0) (Nat.le_of_ble_eq_true rfl) (Nat.le_of_ble_eq_true rfl) ?_
  have hP9 := hP
  have hD9 := hD
  exact W.zret (v := r5) (ty := .boolean) hx hb hr (z_nar w6.1) (fun t ht hW => ⟨⟨r5, (), rfl, ⟨w6.1, (w6.2).imp_right (fun h => iv_w (in_iv h ivk_0 b4) (by decide) (by decide))⟩, by rw [ht]; exact hP9, hD9⟩, hS.F ht⟩) hS.2.2 dX11_isRouter_11
def rm_s11_isAddress : Room := { frames := 1, cells := 0, slots := 0, locals := 22 }
set_option maxHeartbeats 4000000 in
set_option maxRecDepth 100000 in
theorem s11_isAddress (l : Launch) (dC : Nat → ClassId) (dI : Nat → Nat → Nat) (kB kI kJ kZ kC kS : ClassId) (sz : Nat) (m0 : Nat) (ra : Nat → Nat) (x0 : Nat → Int32) (q_told : Nat → Int32) (p0 : Int32) (hX : fI lX11 hX11 x0) (hq_told : fI lTold hTold q_told) : Met l yX11_isAddress wsX11_isAddress rm_s11_isAddress (va_Pc [.ref m0, .int p0] (fun U => U.heap.size = sz ∧ va_P (dC, dI) vwCl [(m0, .inr (11, oX11 ra x0)), (ra 2, .inl (kI, 8, .inl q_told))] U.heap ∧ kE dC dI kB kI kJ kZ kC kS U ∧ va_D (fun _ => True) [(m0, .inr (11, oX11 ra x0)), (ra 2, .inl (kI, 8, .inl q_told))])) (va_Qi (fun (r : Int32) (_ : Unit) => iv 0 1 r ∧ (r = 0 ∨ iv 0 20 p0)) (fun _ t => va_P (dC, dI) vwCl [(m0, .inr (11, oX11 ra x0)), (ra 2, .inl (kI, 8, .inl q_told))] t.heap ∧ va_D (va_A [(m0, .inr (11, oX11 ra x0)), (ra 2, .inl (kI, 8, .inl q_told))] sz) [(m0, .inr (11, oX11 ra x0)), (ra 2, .inl (kI, 8, .inl q_told))]) (va_A [(m0, .inr (11, oX11 ra x0)), (ra 2, .inl (kI, 8, .inl q_told))] sz)) 0 0 (va_A [(m0, .inr (11, oX11 ra x0)), (ra 2, .inl (kI, 8, .inl q_told))] sz) := by
  refine Met.ofW (cc := cX11_isAddress) (maxL := 2) (ret := (some .boolean)) (by decide) rfl ?_
  intro p e s m args0 below meth c s₁ B hml hv
  obtain ⟨hargs, hsz, hP, hE, hD0⟩ := hv
  have hx := B.exec
  have hb := B.bytes
  have hr := B.returns
  have hts := atoms_spec (ws := wsX11_isAddress) B.pre
  have hown : s.vm.findClass RX11 = some m.cls := findClass_of_methodNamed B.named
  have hlocks := B.notSynchronized
  have hK := hE.1
  have hin11 : ∀ w ∈ wsX110, w ∈ wsX11_isAddress := fun _ h9 => List.mem_cons_of_mem _ (List.mem_append_right _ h9)
  subst hsz
  have hD := hD0.self (sz := s.heap.size)
  generalize hAe : va_A [(m0, .inr (11, oX11 ra x0)), (ra 2, .inl (kI, 8, .inl q_told))] s.heap.size = A at hD ⊢
  have hA : ∀ q : Nat, s.heap.size ≤ q → A q := fun q h => by rw [← hAe]; exact Or.inr h
  have hS : va_S A s.heap s.heap [] := va_S.rf
  have hP : va_P (dC, dI) vwCl [(m0, .inr (11, oX11 ra x0)), (ra 2, .inl (kI, 8, .inl q_told))] s.heap := hP
  have hl := lv_entry ([.ref m0, .int p0]) (n := 2) (Nat.le_of_ble_eq_true rfl)
  have hla : entryFrame m args0 2 = entryFrame m ([.ref m0, .int p0] : List Value).toArray 2 := by rw [hargs]
  rw [hla, lg_entry_eq]
  generalize (lg_sl ([.ref m0, .int p0]) ++ List.replicate (2 - (lg_sl ([.ref m0, .int p0])).length) Slot.unset).toArray = ls at hl ⊢
  have hl : lv_has ls 2 [(0, .ref m0), (1, .int p0)] := hl
  have hJ23 : ∀ (H : Heap) (locs : List Loc) (ls : Array Slot), (x0 1 = x0 1) → (x0 10 = x0 10) → (x0 11 = x0 11) → (x0 14 = x0 14) → va_P (dC, dI) vwCl [(m0, .inr (11, oX11 ra x0)), (ra 2, .inl (kI, 8, .inl q_told))] H → va_D A [(m0, .inr (11, oX11 ra x0)), (ra 2, .inl (kI, 8, .inl q_told))] → va_S A s.heap H locs → lv_has ls 2 [(0, .ref m0), (1, .int p0)] → W p l e (headSpec wsX11_isAddress rm_s11_isAddress).room s m args0 below meth c H locs (0) (0) (MQ below (va_Qi (fun (r : Int32) (_ : Unit) => iv 0 1 r ∧ (r = 0 ∨ iv 0 20 p0)) (fun _ t => va_P (dC, dI) vwCl [(m0, .inr (11, oX11 ra x0)), (ra 2, .inl (kI, 8, .inl q_told))] t.heap ∧ va_D A [(m0, .inr (11, oX11 ra x0)), (ra 2, .inl (kI, 8, .inl q_told))]) A) args0 s 0 0 A) (F0 m 23 ls []) := by
    intro H locs ls htp_23 hfp_23 hor_23 hirl_23 hP hD hS hl
    refine lv_iconst (v := 0) hx hb dX11_isAddress_23 ic_0 ?_
    have hP9 := hP
    have hD9 := hD
    exact W.zret (v := 0) (ty := .boolean) hx hb hr rfl (fun t ht hW => ⟨⟨0, (), rfl, ⟨(iv_w ivk_0 (by decide) (by decide)), Or.inl rfl⟩, by rw [ht]; exact hP9, hD9⟩, hS.F ht⟩) hS.2.2 dX11_isAddress_24
  refine lv_iload_n hx hb dX11_isAddress_0 rfl (lv_at hl 1 rfl) ?_
  refine lv_iconst (v := 0) hx hb dX11_isAddress_1 ic_0 ?_
  refine lv_aload_n hx hb dX11_isAddress_2 rfl (lv_at hl 0 rfl) ?_
  obtain ⟨hPc, hDc, hFc, hJn⟩ := cl_a (wc := [(m0, .inr (11, oX11 ra x0)), (ra 2, .inl (kI, 8, .inl q_told))]) (wr := []) hP hD hS hA [0, 1] [] rfl rfl (by decide +kernel)
  refine va_calli (va_runV (As := []) (rest := [.int 0, .int p0]) ⟨hx, hb, hml, hown, hts⟩ (s11_links l dC dI kB kI kJ kZ kC kS s.heap.size m0 ra x0 q_told (hX) (hq_told)) (cwV 0 hts gX11_isAddress_X11_links rfl rfl rfl (by decide +kernel) ⟨Nat.le_of_ble_eq_true rfl, Nat.le_of_ble_eq_true rfl⟩) ⟨fun a U g mk q => by obtain ⟨q0, q1, qP, qE, qD⟩ := q; exact ⟨q0, q1, qP, kE_call qE, qD⟩, va_recv hK hP (ci := 11) (q0 := 0) rfl rfl, fun U hU hW => ⟨rfl, by rw [hU], by rw [hU]; exact hPc, kE_warm hW hE, hDc.weaken (fun _ _ _ _ => trivial)⟩⟩ rfl rfl hl.1 rfl (lv_room (Nat.le_of_ble_eq_true rfl)) dX11_isAddress_3 ⟨Nat.le_of_ble_eq_true rfl, Nat.le_of_ble_eq_true rfl⟩) hS (fun q _ h => hFc q h) hFc (fun r1 u t H locs ht hvm w2 hB hz1 hk1 hS => ?_)
  obtain ⟨hP1, hD1⟩ := hB
  try dsimp only at w2
  obtain ⟨hPa, hDa⟩ := hJn (w1 := [(m0, .inr (11, oX11 ra x0)), (ra 2, .inl (kI, 8, .inl q_told))]) hk1 ht hP1 hD1
  clear hP hD hPc hDc hFc hJn hP1 hD1 hk1
  have hP : va_P (dC, dI) vwCl [(m0, .inr (11, oX11 ra x0)), (ra 2, .inl (kI, 8, .inl q_told))] H := hPa
  have hD : va_D A [(m0, .inr (11, oX11 ra x0)), (ra 2, .inl (kI, 8, .inl q_told))] := hDa
  clear hPa hDa
  refine W.widen (k := 0) (n := 0) (Nat.le_of_ble_eq_true rfl) (Nat.le_of_ble_eq_true rfl) ?_
  subst w2
  obtain ⟨hPc, hDc, hFc, hJn⟩ := cl_a (wc := []) (wr := [(m0, .inr (11, oX11 ra x0)), (ra 2, .inl (kI, 8, .inl q_told))]) hP hD hS hA [] [0, 1] rfl rfl (by decide +kernel)
  refine va_calli (va_runS (As := [.int p0, .int 0, .int (q_told 1)]) (rest := []) ⟨hx, hb, hml, hown, hts⟩ (s11_isIn l dC dI kB kI kJ kZ kC kS H.size p0 0 (q_told 1)) (va_cwS 3 hts gX11_isAddress_X11_isIn rfl rfl rfl (by decide +kernel) ⟨Nat.le_of_ble_eq_true rfl, Nat.le_of_ble_eq_true rfl⟩) ⟨fun a U g mk q => by obtain ⟨q0, q1, qP, qE, qD⟩ := q; exact ⟨q0, q1, qP, kE_call qE, qD⟩, fun U hU hW => ⟨rfl, by rw [hU], by rw [hU]; exact hPc, kE_warm hW hE, hDc.weaken (fun _ _ _ _ => trivial)⟩⟩ rfl rfl hl.1 rfl (lv_room (Nat.le_of_ble_eq_true rfl)) dX11_isAddress_6 ⟨Nat.le_of_ble_eq_true rfl, Nat.le_of_ble_eq_true rfl⟩) hS (fun q _ h => hFc q h) hFc (fun r3 u t H locs ht hvm w4 hB hz1 hk1 hS => ?_)
  obtain ⟨hP1, hD1⟩ := hB
  try dsimp only at w4
  obtain ⟨hPa, hDa⟩ := hJn (w1 := []) hk1 ht hP1 hD1
  clear hP hD hPc hDc hFc hJn hP1 hD1 hk1
  have hP : va_P (dC, dI) vwCl [(m0, .inr (11, oX11 ra x0)), (ra 2, .inl (kI, 8, .inl q_told))] H := hPa
  have hD : va_D A [(m0, .inr (11, oX11 ra x0)), (ra 2, .inl (kI, 8, .inl q_told))] := hDa
  clear hPa hDa
  refine W.widen (k := 0) (n := 0) (Nat.le_of_ble_eq_true rfl) (Nat.le_of_ble_eq_true rfl) ?_
  refine lv_if_eq (tgt := 23) hx hb dX11_isAddress_9 rfl (fun c5 => ?_) (fun c5 => ?_)
  · have b6 : iv 0 0 r3 := iv_eqL c5 ivk_0
    exact hJ23 _ _ _ ((show x0 1 = x0 1 from rfl)) ((show x0 10 = x0 10 from rfl)) ((show x0 11 = x0 11 from rfl)) ((show x0 14 = x0 14 from rfl)) (hP) (hD) hS (lv_sub hl [0, 1] rfl)
  · have b7 : iv 1 1 r3 := iv_neLo c5 w4.1 ivk_0 (by decide) (by decide)
    have hr8 := (w4.2).resolve_left (iv_ne b7 ivk_0 (by decide))
    have b9 : iv 0 20 p0 := iv_cap (in_iv hr8 ivk_0 (hq_told 1 : iv 0 20 (q_told 1))) (iv_t p0) (by decide) (by decide)
    refine lv_aload_n hx hb dX11_isAddress_12 rfl (lv_at hl 0 rfl) ?_
    obtain ⟨hPc, hDc, hFc, hJn⟩ := cl_a (wc := [(m0, .inr (11, oX11 ra x0)), (ra 2, .inl (kI, 8, .inl q_told))]) (wr := []) hP hD hS hA [0, 1] [] rfl rfl (by decide +kernel)
    refine va_calli (va_runV (As := []) (rest := []) ⟨hx, hb, hml, hown, hts⟩ (s11_routers l dC dI kB kI kJ kZ kC kS H.size m0 ra x0 q_told (hX) (hq_told)) (cwV 0 hts gX11_isAddress_X11_routers rfl rfl rfl (by decide +kernel) ⟨Nat.le_of_ble_eq_true rfl, Nat.le_of_ble_eq_true rfl⟩) ⟨fun a U g mk q => by obtain ⟨q0, q1, qP, qE, qD⟩ := q; exact ⟨q0, q1, qP, kE_call qE, qD⟩, va_recv hK hP (ci := 11) (q0 := 0) rfl rfl, fun U hU hW => ⟨rfl, by rw [hU], by rw [hU]; exact hPc, kE_warm hW hE, hDc.weaken (fun _ _ _ _ => trivial)⟩⟩ rfl rfl hl.1 rfl (lv_room (Nat.le_of_ble_eq_true rfl)) dX11_isAddress_13 ⟨Nat.le_of_ble_eq_true rfl, Nat.le_of_ble_eq_true rfl⟩) hS (fun q _ h => hFc q h) hFc (fun r10 u t H locs ht hvm w11 hB hz1 hk1 hS => ?_)
    obtain ⟨hP1, hD1⟩ := hB
    try dsimp only at w11
    obtain ⟨hPa, hDa⟩ := hJn (w1 := [(m0, .inr (11, oX11 ra x0)), (ra 2, .inl (kI, 8, .inl q_told))]) hk1 ht hP1 hD1
    clear hP hD hPc hDc hFc hJn hP1 hD1 hk1
    have hP : va_P (dC, dI) vwCl [(m0, .inr (11, oX11 ra x0)), (ra 2, .inl (kI, 8, .inl q_told))] H := hPa
    have hD : va_D A [(m0, .inr (11, oX11 ra x0)), (ra 2, .inl (kI, 8, .inl q_told))] := hDa
    clear hPa hDa
    refine W.widen (k := 0) (n := 0) (Nat.le_of_ble_eq_true rfl) (Nat.le_of_ble_eq_true rfl) ?_
    subst w11
    refine lv_if_le (tgt := 23) hx hb dX11_isAddress_16 rfl (fun c12 => ?_) (fun c12 => ?_)
    · have b13 : iv 0 0 (q_told 0) := iv_leL c12 (hq_told 0 : iv 0 12 (q_told 0)) ivk_0 (by decide) (by decide)
      exact hJ23 _ _ _ ((show x0 1 = x0 1 from rfl)) ((show x0 10 = x0 10 from rfl)) ((show x0 11 = x0 11 from rfl)) ((show x0 14 = x0 14 from rfl)) (hP) (hD) hS (lv_sub hl [0, 1] rfl)
    · have b14 : iv 1 12 (q_told 0) := iv_ltR (Int32.not_le.mp c12) ivk_0 (hq_told 0 : iv 0 12 (q_told 0)) (by decide) (by decide)
      refine lv_iconst (v := 1) hx hb dX11_isAddress_19 ic_1 ?_
      refine lv_goto (tgt := 24) hx hb dX11_isAddress_20 rfl ?_
      have hP9 := hP
      have hD9 := hD
      exact W.zret (v := 1) (ty := .boolean) hx hb hr rfl (fun t ht hW => ⟨⟨1, (), rfl, ⟨(iv_w ivk_1 (by decide) (by decide)), Or.inr (b9)⟩, by rw [ht]; exact hP9, hD9⟩, hS.F ht⟩) hS.2.2 dX11_isAddress_24
def rm_s11_wasSeen : Room := { frames := 4, cells := 0, slots := 0, locals := 92 }
set_option maxHeartbeats 4000000 in
set_option maxRecDepth 100000 in
theorem s11_wasSeen (l : Launch) (dC : Nat → ClassId) (dI : Nat → Nat → Nat) (kB kI kJ kZ kC kS : ClassId) (sz : Nat) (m0 : Nat) (ra : Nat → Nat) (x0 : Nat → Int32) (q_told : Nat → Int32) (q_now : Nat → Int32) (p0 : Int32) (hX : fI lX11 hX11 x0) (hq_told : fI lTold hTold q_told) (hq_now : fI lNow hNow q_now) : Met l yX11_wasSeen wsX11_wasSeen rm_s11_wasSeen (va_Pc [.ref m0, .int p0] (fun U => U.heap.size = sz ∧ va_P (dC, dI) vwCl [(m0, .inr (11, oX11 ra x0)), (ra 2, .inl (kI, 8, .inl q_told)), (ra 11, .inl (kI, 1019, .inl q_now))] U.heap ∧ kE dC dI kB kI kJ kZ kC kS U ∧ va_D (fun _ => True) [(m0, .inr (11, oX11 ra x0)), (ra 2, .inl (kI, 8, .inl q_told)), (ra 11, .inl (kI, 1019, .inl q_now))])) (va_Qi (fun (r : Int32) (_ : Unit) => iv 0 1 r ∧ (r = 0 ∨ iv 0 20 p0)) (fun _ t => va_P (dC, dI) vwCl [(m0, .inr (11, oX11 ra x0)), (ra 2, .inl (kI, 8, .inl q_told)), (ra 11, .inl (kI, 1019, .inl q_now))] t.heap ∧ va_D (va_A [(m0, .inr (11, oX11 ra x0)), (ra 2, .inl (kI, 8, .inl q_told)), (ra 11, .inl (kI, 1019, .inl q_now))] sz) [(m0, .inr (11, oX11 ra x0)), (ra 2, .inl (kI, 8, .inl q_told)), (ra 11, .inl (kI, 1019, .inl q_now))]) (va_A [(m0, .inr (11, oX11 ra x0)), (ra 2, .inl (kI, 8, .inl q_told)), (ra 11, .inl (kI, 1019, .inl q_now))] sz)) 0 0 (va_A [(m0, .inr (11, oX11 ra x0)), (ra 2, .inl (kI, 8, .inl q_told)), (ra 11, .inl (kI, 1019, .inl q_now))] sz) := by
  refine Met.ofW (cc := cX11_wasSeen) (maxL := 2) (ret := (some .boolean)) (by decide) rfl ?_
  intro p e s m args0 below meth c s₁ B hml hv
  obtain ⟨hargs, hsz, hP, hE, hD0⟩ := hv
  have hx := B.exec
  have hb := B.bytes
  have hr := B.returns
  have hts := atoms_spec (ws := wsX11_wasSeen) B.pre
  have hown : s.vm.findClass RX11 = some m.cls := findClass_of_methodNamed B.named
  have hlocks := B.notSynchronized
  have hK := hE.1
  have hin11 : ∀ w ∈ wsX110, w ∈ wsX11_wasSeen := fun _ h9 => List.mem_cons_of_mem _ (List.mem_append_right _ h9)
  subst hsz
  have hD := hD0.self (sz := s.heap.size)
  generalize hAe : va_A [(m0, .inr (11, oX11 ra x0)), (ra 2, .inl (kI, 8, .inl q_told)), (ra 11, .inl (kI, 1019, .inl q_now))] s.heap.size = A at hD ⊢
  have hA : ∀ q : Nat, s.heap.size ≤ q → A q := fun q h => by rw [← hAe]; exact Or.inr h
  have hS : va_S A s.heap s.heap [] := va_S.rf
  have hP : va_P (dC, dI) vwCl [(m0, .inr (11, oX11 ra x0)), (ra 2, .inl (kI, 8, .inl q_told)), (ra 11, .inl (kI, 1019, .inl q_now))] s.heap := hP
  have hl := lv_entry ([.ref m0, .int p0]) (n := 2) (Nat.le_of_ble_eq_true rfl)
  have hla : entryFrame m args0 2 = entryFrame m ([.ref m0, .int p0] : List Value).toArray 2 := by rw [hargs]
  rw [hla, lg_entry_eq]
  generalize (lg_sl ([.ref m0, .int p0]) ++ List.replicate (2 - (lg_sl ([.ref m0, .int p0])).length) Slot.unset).toArray = ls at hl ⊢
  have hl : lv_has ls 2 [(0, .ref m0), (1, .int p0)] := hl
  have hJ24 : ∀ (H : Heap) (locs : List Loc) (ls : Array Slot), (x0 1 = x0 1) → (x0 10 = x0 10) → (x0 11 = x0 11) → (x0 14 = x0 14) → va_P (dC, dI) vwCl [(m0, .inr (11, oX11 ra x0)), (ra 2, .inl (kI, 8, .inl q_told)), (ra 11, .inl (kI, 1019, .inl q_now))] H → va_D A [(m0, .inr (11, oX11 ra x0)), (ra 2, .inl (kI, 8, .inl q_told)), (ra 11, .inl (kI, 1019, .inl q_now))] → va_S A s.heap H locs → lv_has ls 2 [(0, .ref m0), (1, .int p0)] → W p l e (headSpec wsX11_wasSeen rm_s11_wasSeen).room s m args0 below meth c H locs (0) (0) (MQ below (va_Qi (fun (r : Int32) (_ : Unit) => iv 0 1 r ∧ (r = 0 ∨ iv 0 20 p0)) (fun _ t => va_P (dC, dI) vwCl [(m0, .inr (11, oX11 ra x0)), (ra 2, .inl (kI, 8, .inl q_told)), (ra 11, .inl (kI, 1019, .inl q_now))] t.heap ∧ va_D A [(m0, .inr (11, oX11 ra x0)), (ra 2, .inl (kI, 8, .inl q_told)), (ra 11, .inl (kI, 1019, .inl q_now))]) A) args0 s 0 0 A) (F0 m 24 ls []) := by
    intro H locs ls htp_24 hfp_24 hor_24 hirl_24 hP hD hS hl
    refine lv_iconst (v := 0) hx hb dX11_wasSeen_24 ic_0 ?_
    have hP9 := hP
    have hD9 := hD
    exact W.zret (v := 0) (ty := .boolean) hx hb hr rfl (fun t ht hW => ⟨⟨0, (), rfl, ⟨(iv_w ivk_0 (by decide) (by decide)), Or.inl rfl⟩, by rw [ht]; exact hP9, hD9⟩, hS.F ht⟩) hS.2.2 dX11_wasSeen_25
  refine lv_aload_n hx hb dX11_wasSeen_0 rfl (lv_at hl 0 rfl) ?_
  refine lv_iload_n hx hb dX11_wasSeen_1 rfl (lv_at hl 1 rfl) ?_
  obtain ⟨hPc, hDc, hFc, hJn⟩ := cl_a (wc := [(m0, .inr (11, oX11 ra x0)), (ra 2, .inl (kI, 8, .inl q_told))]) (wr := [(ra 11, .inl (kI, 1019, .inl q_now))]) hP hD hS hA [0, 1] [2] rfl rfl (by decide +kernel)
  refine va_calli (va_runV (As := [.int p0]) (rest := []) ⟨hx, hb, hml, hown, hts⟩ (s11_isAddress l dC dI kB kI kJ kZ kC kS s.heap.size m0 ra x0 q_told p0 (hX) (hq_told)) (cwV 1 hts gX11_wasSeen_X11_isAddress rfl rfl rfl (by decide +kernel) ⟨Nat.le_of_ble_eq_true rfl, Nat.le_of_ble_eq_true rfl⟩) ⟨fun a U g mk q => by obtain ⟨q0, q1, qP, qE, qD⟩ := q; exact ⟨q0, q1, qP, kE_call qE, qD⟩, va_recv hK hP (ci := 11) (q0 := 0) rfl rfl, fun U hU hW => ⟨rfl, by rw [hU], by rw [hU]; exact hPc, kE_warm hW hE, hDc.weaken (fun _ _ _ _ => trivial)⟩⟩ rfl rfl hl.1 rfl (lv_room (Nat.le_of_ble_eq_true rfl)) dX11_wasSeen_2 ⟨Nat.le_of_ble_eq_true rfl, Nat.le_of_ble_eq_true rfl⟩) hS (fun q _ h => hFc q h) hFc (fun r1 u t H locs ht hvm w2 hB hz1 hk1 hS => ?_)
  obtain ⟨hP1, hD1⟩ := hB
  try dsimp only at w2
  obtain ⟨hPa, hDa⟩ := hJn (w1 := [(m0, .inr (11, oX11 ra x0)), (ra 2, .inl (kI, 8, .inl q_told))]) hk1 ht hP1 hD1
  clear hP hD hPc hDc hFc hJn hP1 hD1 hk1
  have hP : va_P (dC, dI) vwCl [(ra 11, .inl (kI, 1019, .inl q_now)), (m0, .inr (11, oX11 ra x0)), (ra 2, .inl (kI, 8, .inl q_told))] H := hPa
  have hD : va_D A [(ra 11, .inl (kI, 1019, .inl q_now)), (m0, .inr (11, oX11 ra x0)), (ra 2, .inl (kI, 8, .inl q_told))] := hDa
  clear hPa hDa
  refine W.widen (k := 0) (n := 0) (Nat.le_of_ble_eq_true rfl) (Nat.le_of_ble_eq_true rfl) ?_
  refine lv_if_eq (tgt := 24) hx hb dX11_wasSeen_5 rfl (fun c3 => ?_) (fun c3 => ?_)
  · have b4 : iv 0 0 r1 := iv_eqL c3 ivk_0
    have hPD9 := cl_s (wc := [(m0, .inr (11, oX11 ra x0)), (ra 2, .inl (kI, 8, .inl q_told)), (ra 11, .inl (kI, 1019, .inl q_now))]) hP hD [1, 2, 0] rfl (by decide +kernel)
    exact hJ24 _ _ _ ((show x0 1 = x0 1 from rfl)) ((show x0 10 = x0 10 from rfl)) ((show x0 11 = x0 11 from rfl)) ((show x0 14 = x0 14 from rfl)) (hPD9.1) (hPD9.2) hS (lv_sub hl [0, 1] rfl)
  · have b5 : iv 1 1 r1 := iv_neLo c3 w2.1 ivk_0 (by decide) (by decide)
    have b6 : iv 0 20 p0 := (w2.2).resolve_left (iv_ne b5 ivk_0 (by decide))
    refine lv_aload_n hx hb dX11_wasSeen_8 rfl (lv_at hl 0 rfl) ?_
    obtain ⟨hPc, hDc, hFc, hJn⟩ := cl_a (wc := [(m0, .inr (11, oX11 ra x0)), (ra 2, .inl (kI, 8, .inl q_told)), (ra 11, .inl (kI, 1019, .inl q_now))]) (wr := []) hP hD hS hA [1, 2, 0] [] rfl rfl (by decide +kernel)
    refine va_calli (va_runV (As := []) (rest := []) ⟨hx, hb, hml, hown, hts⟩ (s11_allSeen l dC dI kB kI kJ kZ kC kS H.size m0 ra x0 q_told q_now (hX) (hq_told) (hq_now)) (cwV 0 hts gX11_wasSeen_X11_allSeen rfl rfl rfl (by decide +kernel) ⟨Nat.le_of_ble_eq_true rfl, Nat.le_of_ble_eq_true rfl⟩) ⟨fun a U g mk q => by obtain ⟨q0, q1, qP, qE, qD⟩ := q; exact ⟨q0, q1, qP, kE_call qE, qD⟩, va_recv hK hP (ci := 11) (q0 := 1) rfl rfl, fun U hU hW => ⟨rfl, by rw [hU], by rw [hU]; exact hPc, kE_warm hW hE, hDc.weaken (fun _ _ _ _ => trivial)⟩⟩ rfl rfl hl.1 rfl (lv_room (Nat.le_of_ble_eq_true rfl)) dX11_wasSeen_9 ⟨Nat.le_of_ble_eq_true rfl, Nat.le_of_ble_eq_true rfl⟩) hS (fun q _ h => hFc q h) hFc (fun r7 u t H locs ht hvm w8 hB hz1 hk1 hS => ?_)
    obtain ⟨hP1, hD1⟩ := hB
    try dsimp only at w8
    obtain ⟨hPa, hDa⟩ := hJn (w1 := [(m0, .inr (11, oX11 ra x0)), (ra 2, .inl (kI, 8, .inl q_told)), (ra 11, .inl (kI, 1019, .inl q_now))]) hk1 ht hP1 hD1
    clear hP hD hPc hDc hFc hJn hP1 hD1 hk1
    have hP : va_P (dC, dI) vwCl [(m0, .inr (11, oX11 ra x0)), (ra 2, .inl (kI, 8, .inl q_told)), (ra 11, .inl (kI, 1019, .inl q_now))] H := hPa
    have hD : va_D A [(m0, .inr (11, oX11 ra x0)), (ra 2, .inl (kI, 8, .inl q_told)), (ra 11, .inl (kI, 1019, .inl q_now))] := hDa
    clear hPa hDa
    refine W.widen (k := 0) (n := 0) (Nat.le_of_ble_eq_true rfl) (Nat.le_of_ble_eq_true rfl) ?_
    refine lv_iload_n hx hb dX11_wasSeen_12 rfl (lv_at hl 1 rfl) ?_
    refine lv_ishr hx hb dX11_wasSeen_13 ?_
    refine lv_topi (fun z9 _ => ?_)
    refine lv_iconst (v := 1) hx hb dX11_wasSeen_14 ic_1 ?_
    refine lv_iand hx hb dX11_wasSeen_15 ?_
    refine iv_top (a := 0) (b := 1) (iv_and (m := 1) (by decide) (by decide) (by decide)) (fun z10 b11 => ?_)
    refine lv_iconst (v := 1) hx hb dX11_wasSeen_16 ic_1 ?_
    refine lv_icmp_ne (tgt := 24) hx hb dX11_wasSeen_17 rfl (fun c12 => ?_) (fun c12 => ?_)
    · have b13 : iv 0 0 z10 := iv_neHi c12 b11 ivk_1 (by decide) (by decide)
      exact hJ24 _ _ _ ((show x0 1 = x0 1 from rfl)) ((show x0 10 = x0 10 from rfl)) ((show x0 11 = x0 11 from rfl)) ((show x0 14 = x0 14 from rfl)) (hP) (hD) hS (lv_sub hl [0, 1] rfl)
    · have b14 : iv 1 1 z10 := iv_eqL c12 ivk_1
      refine lv_iconst (v := 1) hx hb dX11_wasSeen_20 ic_1 ?_
      refine lv_goto (tgt := 25) hx hb dX11_wasSeen_21 rfl ?_
      have hP9 := hP
      have hD9 := hD
      exact W.zret (v := 1) (ty := .boolean) hx hb hr rfl (fun t ht hW => ⟨⟨1, (), rfl, ⟨(iv_w ivk_1 (by decide) (by decide)), Or.inr (b6)⟩, by rw [ht]; exact hP9, hD9⟩, hS.F ht⟩) hS.2.2 dX11_wasSeen_25
def rm_s11_feed : Room := { frames := 0, cells := 0, slots := 0, locals := 0 }
set_option maxHeartbeats 4000000 in
set_option maxRecDepth 100000 in
theorem s11_feed (l : Launch) (dC : Nat → ClassId) (dI : Nat → Nat → Nat) (kB kI kJ kZ kC kS : ClassId) (sz : Nat) (m0 : Nat) (ra : Nat → Nat) (x0 : Nat → Int32) (q_tape : Nat → Int32) (p0 : Int32) (p1 : Int32) (p2 : Int32) (p3 : Int32) (p4 : Int32) (hX : fI lX11 hX11 x0) (hq_tape : fI (fun _ => 0) (fun _ => 255) q_tape) : Met l yX11_feed wsX11_feed rm_s11_feed (va_Pc [.ref m0, .int p0, .int p1, .int p2, .int p3, .int p4] (fun U => U.heap.size = sz ∧ va_P (dC, dI) vwCl [(m0, .inr (11, oX11 ra x0)), (ra 13, .inl (kI, 700, .inl q_tape))] U.heap ∧ kE dC dI kB kI kJ kZ kC kS U ∧ va_D (fun _ => True) [(m0, .inr (11, oX11 ra x0)), (ra 13, .inl (kI, 700, .inl q_tape))])) (va_Qi (fun (r : Int32) (_ : Unit) => iv (-1) 700 r) (fun _ t => ∃ (x0' : Nat → Int32) (q_tape' : Nat → Int32), fI lX11 hX11 x0' ∧ fI (fun _ => 0) (fun _ => 255) q_tape' ∧ (x0' 10 = x0 10) ∧ (x0' 11 = x0 11) ∧ (x0' 14 = x0 14) ∧ va_P (dC, dI) vwCl [(m0, .inr (11, oX11 ra x0')), (ra 13, .inl (kI, 700, .inl q_tape'))] t.heap ∧ va_D (va_A [(m0, .inr (11, oX11 ra x0)), (ra 13, .inl (kI, 700, .inl q_tape))] sz) [(m0, .inr (11, oX11 ra x0')), (ra 13, .inl (kI, 700, .inl q_tape'))]) (va_A [(m0, .inr (11, oX11 ra x0)), (ra 13, .inl (kI, 700, .inl q_tape))] sz)) 0 0 (va_A [(m0, .inr (11, oX11 ra x0)), (ra 13, .inl (kI, 700, .inl q_tape))] sz) := by
  refine Met.ofW (cc := cX11_feed) (maxL := 8) (ret := (some .int)) (by decide) rfl ?_
  intro p e s m args0 below meth c s₁ B hml hv
  obtain ⟨hargs, hsz, hP, hE, hD0⟩ := hv
  have hx := B.exec
  have hb := B.bytes
  have hr := B.returns
  have hts := atoms_spec (ws := wsX11_feed) B.pre
  have hown : s.vm.findClass RX11 = some m.cls := findClass_of_methodNamed B.named
  have hlocks := B.notSynchronized
  have hK := hE.1
  have hin11 : ∀ w ∈ wsX110, w ∈ wsX11_feed := fun _ h9 => List.mem_cons_of_mem _ (List.mem_append_right _ h9)
  have hw_0 := hts (.fieldLink RX11 145 "PathProberModel" "taped" "I") (List.mem_of_getElem? (i := 2) rfl)
  have hw_1 := hts (.fieldLink RX11 66 "PathProberModel" "tape" "[I") (List.mem_of_getElem? (i := 3) rfl)
  have hw_2 := hts (.fieldLink RX11 142 "PathProberModel" "code" "I") (List.mem_of_getElem? (i := 1) rfl)
  subst hsz
  have hD := hD0.self (sz := s.heap.size)
  generalize hAe : va_A [(m0, .inr (11, oX11 ra x0)), (ra 13, .inl (kI, 700, .inl q_tape))] s.heap.size = A at hD ⊢
  have hA : ∀ q : Nat, s.heap.size ≤ q → A q := fun q h => by rw [← hAe]; exact Or.inr h
  have hS : va_S A s.heap s.heap [] := va_S.rf
  have hP : va_P (dC, dI) vwCl [(m0, .inr (11, oX11 ra x0)), (ra 13, .inl (kI, 700, .inl q_tape))] s.heap := hP
  have hl := lv_entry ([.ref m0, .int p0, .int p1, .int p2, .int p3, .int p4]) (n := 8) (Nat.le_of_ble_eq_true rfl)
  have hla : entryFrame m args0 8 = entryFrame m ([.ref m0, .int p0, .int p1, .int p2, .int p3, .int p4] : List Value).toArray 8 := by rw [hargs]
  rw [hla, lg_entry_eq]
  generalize (lg_sl ([.ref m0, .int p0, .int p1, .int p2, .int p3, .int p4]) ++ List.replicate (8 - (lg_sl ([.ref m0, .int p0, .int p1, .int p2, .int p3, .int p4])).length) Slot.unset).toArray = ls at hl ⊢
  have hl : lv_has ls 8 [(0, .ref m0), (1, .int p0), (2, .int p1), (3, .int p2), (4, .int p3), (5, .int p4)] := hl
  have hJ23 : ∀ (n : Nat) (y23_0 : Nat → Int32) (g23_1 : Nat → Int32) (v23_loc6 : Int32) (H : Heap) (locs : List Loc) (ls : Array Slot), (20 - v23_loc6.toInt).toNat < n → fI lX11 hX11 y23_0 → fI (fun _ => 0) (fun _ => 255) g23_1 → iv 0 20 v23_loc6 → iv 0 0 (y23_0 0) → iv 20 700 ((x0 1) + 20) → ((y23_0 1).toInt = (x0 1).toInt + v23_loc6.toInt) → ((x0 1).toInt + 20 ≤ 700) → (y23_0 10 = x0 10) → (y23_0 11 = x0 11) → (y23_0 14 = x0 14) → va_P (dC, dI) vwCl [(m0, .inr (11, oX11 ra y23_0)), (ra 13, .inl (kI, 700, .inl g23_1))] H → va_D A [(m0, .inr (11, oX11 ra y23_0)), (ra 13, .inl (kI, 700, .inl g23_1))] → va_S A s.heap H locs → lv_has ls 8 [(0, .ref m0), (1, .int p0), (2, .int p1), (3, .int p2), (4, .int p3), (5, .int p4), (6, .int v23_loc6)] → W p l e (headSpec wsX11_feed rm_s11_feed).room s m args0 below meth c H locs (0) (0) (MQ below (va_Qi (fun (r : Int32) (_ : Unit) => iv (-1) 700 r) (fun _ t => ∃ (x0' : Nat → Int32) (q_tape' : Nat → Int32), fI lX11 hX11 x0' ∧ fI (fun _ => 0) (fun _ => 255) q_tape' ∧ (x0' 10 = x0 10) ∧ (x0' 11 = x0 11) ∧ (x0' 14 = x0 14) ∧ va_P (dC, dI) vwCl [(m0, .inr (11, oX11 ra x0')), (ra 13, .inl (kI, 700, .inl q_tape'))] t.heap ∧ va_D A [(m0, .inr (11, oX11 ra x0')), (ra 13, .inl (kI, 700, .inl q_tape'))]) A) args0 s 0 0 A) (F0 m 23 ls []) := by
    intro n
    induction n with
    | zero => intro y23_0 g23_1 v23_loc6 H locs ls hm23; exact absurd hm23 (Nat.not_lt_zero _)
    | succ n ih23 =>
      intro y23_0 g23_1 v23_loc6 H locs ls hm23 hI23_0 hI23_1 h23_3 h23_4 h23_5 hfd_23 hro_23 hfp_23 hor_23 hirl_23 hP hD hS hl
      refine lv_iload hx hb dX11_feed_23 (lv_at hl 6 rfl) ?_
      refine lv_bipush (v := 20) hx hb dX11_feed_25 bp_20 ?_
      refine lv_icmp_ge (tgt := 120) hx hb dX11_feed_27 rfl (fun c1 => ?_) (fun c1 => ?_)
      · have b2 : iv 20 20 v23_loc6 := iv_leR c1 ivk_20 h23_3 (by decide) (by decide)
        refine lv_aload_n hx hb dX11_feed_120 rfl (lv_at hl 0 rfl) ?_
        refine va_get (D := (dC, dI)) (ci := 11) (v := .int (y23_0 1)) (C := RX11) (T := TX11) (N := 61) hx hb hts hin11 hown hK hP 0 rfl rfl 15 (Nat.le_of_ble_eq_true rfl) hw_0 (fun _ h9 => h9) rfl dX11_feed_121 ?_
        have hP9 := hP
        have hD9 := hD
        exact W.iret (v := y23_0 1) hx hb hr (fun t ht hW => ⟨⟨y23_0 1, (), rfl, (iv_w (hI23_0 1 : iv 0 700 (y23_0 1)) (by decide) (by decide)), y23_0, g23_1, hI23_0, hI23_1, (show y23_0 10 = x0 10 from hfp_23), (show y23_0 11 = x0 11 from hor_23), (show y23_0 14 = x0 14 from hirl_23), by rw [ht]; exact hP9, hD9⟩, hS.F ht⟩) hS.2.2 dX11_feed_124
      · have b3 : iv 0 19 v23_loc6 := iv_ltL (Int32.not_le.mp c1) h23_3 ivk_20 (by decide) (by decide)
        refine lv_iload hx hb dX11_feed_30 (lv_at hl 6 rfl) ?_
        refine lv_iconst (v := 4) hx hb dX11_feed_32 ic_4 ?_
        refine lv_icmp_ge (tgt := 40) hx hb dX11_feed_33 rfl (fun c4 => ?_) (fun c4 => ?_)
        · have b5 : iv 4 19 v23_loc6 := iv_leR c4 ivk_4 b3 (by decide) (by decide)
          refine lv_iload hx hb dX11_feed_40 (lv_at hl 6 rfl) ?_
          refine lv_bipush (v := 8) hx hb dX11_feed_42 bp_8 ?_
          refine lv_icmp_ge (tgt := 51) hx hb dX11_feed_44 rfl (fun c6 => ?_) (fun c6 => ?_)
          · have b7 : iv 8 19 v23_loc6 := iv_leR c6 ivk_8 b5 (by decide) (by decide)
            refine lv_iload hx hb dX11_feed_51 (lv_at hl 6 rfl) ?_
            refine lv_bipush (v := 12) hx hb dX11_feed_53 bp_12 ?_
            refine lv_icmp_ge (tgt := 62) hx hb dX11_feed_55 rfl (fun c8 => ?_) (fun c8 => ?_)
            · have b9 : iv 12 19 v23_loc6 := iv_leR c8 ivk_12 b7 (by decide) (by decide)
              refine lv_iload hx hb dX11_feed_62 (lv_at hl 6 rfl) ?_
              refine lv_bipush (v := 16) hx hb dX11_feed_64 bp_16 ?_
              refine lv_icmp_ge (tgt := 74) hx hb dX11_feed_66 rfl (fun c10 => ?_) (fun c10 => ?_)
              · have b11 : iv 16 19 v23_loc6 := iv_leR c10 ivk_16 b9 (by decide) (by decide)
                refine lv_iload hx hb dX11_feed_74 (lv_at hl 5 rfl) ?_
                refine lv_istore (lv' := [(7, .int p4), (0, .ref m0), (1, .int p0), (2, .int p1), (3, .int p2), (4, .int p3), (5, .int p4), (6, .int v23_loc6)]) hx hb dX11_feed_76 hl (Nat.le_of_ble_eq_true rfl) rfl (fun ls hl => ?_)
                have b12 : iv 0 699 (y23_0 1) := feed_699 hfd_23 hro_23 (hI23_0 1 : iv 0 700 (y23_0 1)) (iv_w b11 (by decide) (by decide))
                refine lv_aload_n hx hb dX11_feed_78 rfl (lv_at hl 1 rfl) ?_
                refine va_get (D := (dC, dI)) (ci := 11) (v := .ref (ra 13)) (C := RX11) (T := TX11) (N := 61) hx hb hts hin11 hown hK hP 0 rfl rfl 14 (Nat.le_of_ble_eq_true rfl) hw_1 (fun _ h9 => h9) rfl dX11_feed_79 ?_
                refine lv_aload_n hx hb dX11_feed_82 rfl (lv_at hl 1 rfl) ?_
                refine va_get (D := (dC, dI)) (ci := 11) (v := .int (y23_0 1)) (C := RX11) (T := TX11) (N := 61) hx hb hts hin11 hown hK hP 0 rfl rfl 15 (Nat.le_of_ble_eq_true rfl) hw_0 (fun _ h9 => h9) rfl dX11_feed_83 ?_
                refine lv_iload hx hb dX11_feed_86 (lv_at hl 0 rfl) ?_
                refine lv_bipush (v := 24) hx hb dX11_feed_88 bp_24 ?_
                refine lv_bipush (v := 8) hx hb dX11_feed_90 bp_8 ?_
                refine lv_iload hx hb dX11_feed_92 (lv_at hl 7 rfl) ?_
                refine lv_iconst (v := 4) hx hb dX11_feed_94 ic_4 ?_
                refine lv_irem hx hb dX11_feed_95 (by decide) ?_
                refine iv_top (a := 0) (b := 3) (iv_rem b11 ivk_4 (by decide) (by decide) (by decide) (by decide)) (fun z13 b14 => ?_)
                refine lv_imul hx hb dX11_feed_96 ?_
                refine iv_top (a := 0) (b := 24) (iv_mul ivk_8 b14 (by decide) (by decide) (by decide) (by decide) (by decide)) (fun z15 b16 => ?_)
                refine lv_isub hx hb dX11_feed_97 ?_
                refine iv_top (a := 0) (b := 24) (iv_sub ivk_24 b16 (by decide) (by decide) (by decide) (by decide)) (fun z17 b18 => ?_)
                refine lv_ishr hx hb dX11_feed_98 ?_
                refine lv_topi (fun z19 _ => ?_)
                refine lv_sipush (v := 255) hx hb dX11_feed_99 (by decide) ?_
                refine lv_iand hx hb dX11_feed_102 ?_
                refine iv_top (a := 0) (b := 255) (iv_and (m := 255) (by decide) (by decide) (by decide)) (fun z20 b21 => ?_)
                refine va_iast hx hb hK hP hD hS 1 1 rfl rfl (iv_in b12 (by decide) (by decide)) dX11_feed_103 (fun H locs hPa hDa hS => ?_)
                clear hP hD
                have hP : va_P (dC, dI) vwCl [(m0, .inr (11, oX11 ra y23_0)), (ra 13, .inl (kI, 700, .inl (upd g23_1 (y23_0 1).toNatClampNeg z20)))] H := hPa
                have hD : va_D A [(m0, .inr (11, oX11 ra y23_0)), (ra 13, .inl (kI, 700, .inl (upd g23_1 (y23_0 1).toNatClampNeg z20)))] := hDa
                clear hPa hDa
                have hf23 : fI (fun _ => 0) (fun _ => 255) (upd g23_1 (y23_0 1).toNatClampNeg z20) := fI_u hI23_1 (k := (y23_0 1).toNatClampNeg) (b21)
                generalize (upd g23_1 (y23_0 1).toNatClampNeg z20) = f22 at hP hD hf23
                refine lv_aload_n hx hb dX11_feed_104 rfl (lv_at hl 1 rfl) ?_
                refine lv_dup hx hb dX11_feed_105 rfl ?_
                refine va_get (D := (dC, dI)) (ci := 11) (v := .int (y23_0 1)) (C := RX11) (T := TX11) (N := 61) hx hb hts hin11 hown hK hP 0 rfl rfl 15 (Nat.le_of_ble_eq_true rfl) hw_0 (fun _ h9 => h9) rfl dX11_feed_106 ?_
                refine lv_iconst (v := 1) hx hb dX11_feed_109 ic_1 ?_
                refine lv_iadd hx hb dX11_feed_110 ?_
                have b24 : iv 1 700 ((y23_0 1) + 1) := iv_add b12 ivk_1 (by decide) (by decide) (by decide) (by decide)
                have t25 : ((y23_0 1) + 1).toInt = (y23_0 1).toInt + 1 := iv_addc b12 (by decide) (by decide) (by decide)
                refine va_put (D := (dC, dI)) (ci := 11) (v := .int ((y23_0 1) + 1)) (ty := .int) (C := RX11) (T := TX11) (N := 61) hx hb hts hin11 tyX11 tyX11_ok nmX11 hown hK hP hD hS 0 rfl rfl 15 (by decide) hw_0 (fun _ h9 => h9) rfl (by decide +kernel) rfl rfl (Nat.le_of_ble_eq_true rfl) dX11_feed_111 (fun H locs hPa hDa hS => ?_)
                clear hP hD
                have hP : va_P (dC, dI) vwCl [(m0, .inr (11, oX11 ra (upd y23_0 1 ((y23_0 1) + 1)))), (ra 13, .inl (kI, 700, .inl f22))] H := hPa
                have hD : va_D A [(m0, .inr (11, oX11 ra (upd y23_0 1 ((y23_0 1) + 1)))), (ra 13, .inl (kI, 700, .inl f22))] := hDa
                clear hPa hDa
                refine lv_iinc (v := v23_loc6 + Int32.ofInt 1) (lv' := [(6, .int (v23_loc6 + Int32.ofInt 1)), (7, .int p4), (0, .ref m0), (1, .int p0), (2, .int p1), (3, .int p2), (4, .int p3), (5, .int p4)]) hx hb dX11_feed_114 hl (k := 7) rfl (rfl) (Nat.le_of_ble_eq_true rfl) rfl (fun ls hl => ?_)
                have b26 : iv 17 20 (v23_loc6 + Int32.ofInt 1) := iv_add b11 ivo_1 (by decide) (by decide) (by decide) (by decide)
                have t27 : (v23_loc6 + Int32.ofInt 1).toInt = v23_loc6.toInt + 1 := iv_inc 1 b11 (by decide) (by decide) (by decide) (by decide)
                refine lv_goto (tgt := 23) hx hb dX11_feed_117 rfl ?_
                exact ih23 (upd y23_0 1 ((y23_0 1) + 1)) f22 (v23_loc6 + Int32.ofInt 1) _ _ _ (ms_up (c := 1) (d := 0) b11 hm23 (by decide) (iv_inc 1 b11 (by decide) (by decide) (by decide) (by decide)) (by decide) rfl) ((fI_u hI23_0 (k := 1) ((iv_w b24 (by decide) (by decide))))) (hf23) ((iv_w b26 (by decide) (by decide))) (h23_4) (h23_5) ((show ((y23_0 1) + 1).toInt = (x0 1).toInt + (v23_loc6 + Int32.ofInt 1).toInt from by have q5 := hfd_23; omega)) ((show (x0 1).toInt + 20 ≤ 700 from hro_23)) ((show y23_0 10 = x0 10 from hfp_23)) ((show y23_0 11 = x0 11 from hor_23)) ((show y23_0 14 = x0 14 from hirl_23)) (hP) (hD) hS (lv_sub hl [2, 3, 4, 5, 6, 7, 0] rfl)
              · have b28 : iv 12 15 v23_loc6 := iv_ltL (Int32.not_le.mp c10) b9 ivk_16 (by decide) (by decide)
                refine lv_iload hx hb dX11_feed_69 (lv_at hl 4 rfl) ?_
                refine lv_goto (tgt := 76) hx hb dX11_feed_71 rfl ?_
                refine lv_istore (lv' := [(7, .int p3), (0, .ref m0), (1, .int p0), (2, .int p1), (3, .int p2), (4, .int p3), (5, .int p4), (6, .int v23_loc6)]) hx hb dX11_feed_76 hl (Nat.le_of_ble_eq_true rfl) rfl (fun ls hl => ?_)
                have b29 : iv 0 699 (y23_0 1) := feed_699 hfd_23 hro_23 (hI23_0 1 : iv 0 700 (y23_0 1)) (iv_w b28 (by decide) (by decide))
                refine lv_aload_n hx hb dX11_feed_78 rfl (lv_at hl 1 rfl) ?_
                refine va_get (D := (dC, dI)) (ci := 11) (v := .ref (ra 13)) (C := RX11) (T := TX11) (N := 61) hx hb hts hin11 hown hK hP 0 rfl rfl 14 (Nat.le_of_ble_eq_true rfl) hw_1 (fun _ h9 => h9) rfl dX11_feed_79 ?_
                refine lv_aload_n hx hb dX11_feed_82 rfl (lv_at hl 1 rfl) ?_
                refine va_get (D := (dC, dI)) (ci := 11) (v := .int (y23_0 1)) (C := RX11) (T := TX11) (N := 61) hx hb hts hin11 hown hK hP 0 rfl rfl 15 (Nat.le_of_ble_eq_true rfl) hw_0 (fun _ h9 => h9) rfl dX11_feed_83 ?_
                refine lv_iload hx hb dX11_feed_86 (lv_at hl 0 rfl) ?_
                refine lv_bipush (v := 24) hx hb dX11_feed_88 bp_24 ?_
                refine lv_bipush (v := 8) hx hb dX11_feed_90 bp_8 ?_
                refine lv_iload hx hb dX11_feed_92 (lv_at hl 7 rfl) ?_
                refine lv_iconst (v := 4) hx hb dX11_feed_94 ic_4 ?_
                refine lv_irem hx hb dX11_feed_95 (by decide) ?_
                refine iv_top (a := 0) (b := 3) (iv_rem b28 ivk_4 (by decide) (by decide) (by decide) (by decide)) (fun z30 b31 => ?_)
                refine lv_imul hx hb dX11_feed_96 ?_
                refine iv_top (a := 0) (b := 24) (iv_mul ivk_8 b31 (by decide) (by decide) (by decide) (by decide) (by decide)) (fun z32 b33 => ?_)
                refine lv_isub hx hb dX11_feed_97 ?_
                refine iv_top (a := 0) (b := 24) (iv_sub ivk_24 b33 (by decide) (by decide) (by decide) (by decide)) (fun z34 b35 => ?_)
                refine lv_ishr hx hb dX11_feed_98 ?_
                refine lv_topi (fun z36 _ => ?_)
                refine lv_sipush (v := 255) hx hb dX11_feed_99 (by decide) ?_
                refine lv_iand hx hb dX11_feed_102 ?_
                refine iv_top (a := 0) (b := 255) (iv_and (m := 255) (by decide) (by decide) (by decide)) (fun z37 b38 => ?_)
                refine va_iast hx hb hK hP hD hS 1 1 rfl rfl (iv_in b29 (by decide) (by decide)) dX11_feed_103 (fun H locs hPa hDa hS => ?_)
                clear hP hD
                have hP : va_P (dC, dI) vwCl [(m0, .inr (11, oX11 ra y23_0)), (ra 13, .inl (kI, 700, .inl (upd g23_1 (y23_0 1).toNatClampNeg z37)))] H := hPa
                have hD : va_D A [(m0, .inr (11, oX11 ra y23_0)), (ra 13, .inl (kI, 700, .inl (upd g23_1 (y23_0 1).toNatClampNeg z37)))] := hDa
                clear hPa hDa
                have hf40 : fI (fun _ => 0) (fun _ => 255) (upd g23_1 (y23_0 1).toNatClampNeg z37) := fI_u hI23_1 (k := (y23_0 1).toNatClampNeg) (b38)
                generalize (upd g23_1 (y23_0 1).toNatClampNeg z37) = f39 at hP hD hf40
                refine lv_aload_n hx hb dX11_feed_104 rfl (lv_at hl 1 rfl) ?_
                refine lv_dup hx hb dX11_feed_105 rfl ?_
                refine va_get (D := (dC, dI)) (ci := 11) (v := .int (y23_0 1)) (C := RX11) (T := TX11) (N := 61) hx hb hts hin11 hown hK hP 0 rfl rfl 15 (Nat.le_of_ble_eq_true rfl) hw_0 (fun _ h9 => h9) rfl dX11_feed_106 ?_
                refine lv_iconst (v := 1) hx hb dX11_feed_109 ic_1 ?_
                refine lv_iadd hx hb dX11_feed_110 ?_
                have b41 : iv 1 700 ((y23_0 1) + 1) := iv_add b29 ivk_1 (by decide) (by decide) (by decide) (by decide)
                have t42 : ((y23_0 1) + 1).toInt = (y23_0 1).toInt + 1 := iv_addc b29 (by decide) (by decide) (by decide)
                refine va_put (D := (dC, dI)) (ci := 11) (v := .int ((y23_0 1) + 1)) (ty := .int) (C := RX11) (T := TX11) (N := 61) hx hb hts hin11 tyX11 tyX11_ok nmX11 hown hK hP hD hS 0 rfl rfl 15 (by decide) hw_0 (fun _ h9 => h9) rfl (by decide +kernel) rfl rfl (Nat.le_of_ble_eq_true rfl) dX11_feed_111 (fun H locs hPa hDa hS => ?_)
                clear hP hD
                have hP : va_P (dC, dI) vwCl [(m0, .inr (11, oX11 ra (upd y23_0 1 ((y23_0 1) + 1)))), (ra 13, .inl (kI, 700, .inl f39))] H := hPa
                have hD : va_D A [(m0, .inr (11, oX11 ra (upd y23_0 1 ((y23_0 1) + 1)))), (ra 13, .inl (kI, 700, .inl f39))] := hDa
                clear hPa hDa
                refine lv_iinc (v := v23_loc6 + Int32.ofInt 1) (lv' := [(6, .int (v23_loc6 + Int32.ofInt 1)), (7, .int p3), (0, .ref m0), (1, .int p0), (2, .int p1), (3, .int p2), (4, .int p3), (5, .int p4)]) hx hb dX11_feed_114 hl (k := 7) rfl (rfl) (Nat.le_of_ble_eq_true rfl) rfl (fun ls hl => ?_)
                have b43 : iv 13 16 (v23_loc6 + Int32.ofInt 1) := iv_add b28 ivo_1 (by decide) (by decide) (by decide) (by decide)
                have t44 : (v23_loc6 + Int32.ofInt 1).toInt = v23_loc6.toInt + 1 := iv_inc 1 b28 (by decide) (by decide) (by decide) (by decide)
                refine lv_goto (tgt := 23) hx hb dX11_feed_117 rfl ?_
                exact ih23 (upd y23_0 1 ((y23_0 1) + 1)) f39 (v23_loc6 + Int32.ofInt 1) _ _ _ (ms_up (c := 1) (d := 0) b28 hm23 (by decide) (iv_inc 1 b28 (by decide) (by decide) (by decide) (by decide)) (by decide) rfl) ((fI_u hI23_0 (k := 1) ((iv_w b41 (by decide) (by decide))))) (hf40) ((iv_w b43 (by decide) (by decide))) (h23_4) (h23_5) ((show ((y23_0 1) + 1).toInt = (x0 1).toInt + (v23_loc6 + Int32.ofInt 1).toInt from by have q5 := hfd_23; omega)) ((show (x0 1).toInt + 20 ≤ 700 from hro_23)) ((show y23_0 10 = x0 10 from hfp_23)) ((show y23_0 11 = x0 11 from hor_23)) ((show y23_0 14 = x0 14 from hirl_23)) (hP) (hD) hS (lv_sub hl [2, 3, 4, 5, 6, 7, 0] rfl)
            · have b45 : iv 8 11 v23_loc6 := iv_ltL (Int32.not_le.mp c8) b7 ivk_12 (by decide) (by decide)
              refine lv_iload_n hx hb dX11_feed_58 rfl (lv_at hl 3 rfl) ?_
              refine lv_goto (tgt := 76) hx hb dX11_feed_59 rfl ?_
              refine lv_istore (lv' := [(7, .int p2), (0, .ref m0), (1, .int p0), (2, .int p1), (3, .int p2), (4, .int p3), (5, .int p4), (6, .int v23_loc6)]) hx hb dX11_feed_76 hl (Nat.le_of_ble_eq_true rfl) rfl (fun ls hl => ?_)
              have b46 : iv 0 699 (y23_0 1) := feed_699 hfd_23 hro_23 (hI23_0 1 : iv 0 700 (y23_0 1)) (iv_w b45 (by decide) (by decide))
              refine lv_aload_n hx hb dX11_feed_78 rfl (lv_at hl 1 rfl) ?_
              refine va_get (D := (dC, dI)) (ci := 11) (v := .ref (ra 13)) (C := RX11) (T := TX11) (N := 61) hx hb hts hin11 hown hK hP 0 rfl rfl 14 (Nat.le_of_ble_eq_true rfl) hw_1 (fun _ h9 => h9) rfl dX11_feed_79 ?_
              refine lv_aload_n hx hb dX11_feed_82 rfl (lv_at hl 1 rfl) ?_
              refine va_get (D := (dC, dI)) (ci := 11) (v := .int (y23_0 1)) (C := RX11) (T := TX11) (N := 61) hx hb hts hin11 hown hK hP 0 rfl rfl 15 (Nat.le_of_ble_eq_true rfl) hw_0 (fun _ h9 => h9) rfl dX11_feed_83 ?_
              refine lv_iload hx hb dX11_feed_86 (lv_at hl 0 rfl) ?_
              refine lv_bipush (v := 24) hx hb dX11_feed_88 bp_24 ?_
              refine lv_bipush (v := 8) hx hb dX11_feed_90 bp_8 ?_
              refine lv_iload hx hb dX11_feed_92 (lv_at hl 7 rfl) ?_
              refine lv_iconst (v := 4) hx hb dX11_feed_94 ic_4 ?_
              refine lv_irem hx hb dX11_feed_95 (by decide) ?_
              refine iv_top (a := 0) (b := 3) (iv_rem b45 ivk_4 (by decide) (by decide) (by decide) (by decide)) (fun z47 b48 => ?_)
              refine lv_imul hx hb dX11_feed_96 ?_
              refine iv_top (a := 0) (b := 24) (iv_mul ivk_8 b48 (by decide) (by decide) (by decide) (by decide) (by decide)) (fun z49 b50 => ?_)
              refine lv_isub hx hb dX11_feed_97 ?_
              refine iv_top (a := 0) (b := 24) (iv_sub ivk_24 b50 (by decide) (by decide) (by decide) (by decide)) (fun z51 b52 => ?_)
              refine lv_ishr hx hb dX11_feed_98 ?_
              refine lv_topi (fun z53 _ => ?_)
              refine lv_sipush (v := 255) hx hb dX11_feed_99 (by decide) ?_
              refine lv_iand hx hb dX11_feed_102 ?_
              refine iv_top (a := 0) (b := 255) (iv_and (m := 255) (by decide) (by decide) (by decide)) (fun z54 b55 => ?_)
              refine va_iast hx hb hK hP hD hS 1 1 rfl rfl (iv_in b46 (by decide) (by decide)) dX11_feed_103 (fun H locs hPa hDa hS => ?_)
              clear hP hD
              have hP : va_P (dC, dI) vwCl [(m0, .inr (11, oX11 ra y23_0)), (ra 13, .inl (kI, 700, .inl (upd g23_1 (y23_0 1).toNatClampNeg z54)))] H := hPa
              have hD : va_D A [(m0, .inr (11, oX11 ra y23_0)), (ra 13, .inl (kI, 700, .inl (upd g23_1 (y23_0 1).toNatClampNeg z54)))] := hDa
              clear hPa hDa
              have hf57 : fI (fun _ => 0) (fun _ => 255) (upd g23_1 (y23_0 1).toNatClampNeg z54) := fI_u hI23_1 (k := (y23_0 1).toNatClampNeg) (b55)
              generalize (upd g23_1 (y23_0 1).toNatClampNeg z54) = f56 at hP hD hf57
              refine lv_aload_n hx hb dX11_feed_104 rfl (lv_at hl 1 rfl) ?_
              refine lv_dup hx hb dX11_feed_105 rfl ?_
              refine va_get (D := (dC, dI)) (ci := 11) (v := .int (y23_0 1)) (C := RX11) (T := TX11) (N := 61) hx hb hts hin11 hown hK hP 0 rfl rfl 15 (Nat.le_of_ble_eq_true rfl) hw_0 (fun _ h9 => h9) rfl dX11_feed_106 ?_
              refine lv_iconst (v := 1) hx hb dX11_feed_109 ic_1 ?_
              refine lv_iadd hx hb dX11_feed_110 ?_
              have b58 : iv 1 700 ((y23_0 1) + 1) := iv_add b46 ivk_1 (by decide) (by decide) (by decide) (by decide)
              have t59 : ((y23_0 1) + 1).toInt = (y23_0 1).toInt + 1 := iv_addc b46 (by decide) (by decide) (by decide)
              refine va_put (D := (dC, dI)) (ci := 11) (v := .int ((y23_0 1) + 1)) (ty := .int) (C := RX11) (T := TX11) (N := 61) hx hb hts hin11 tyX11 tyX11_ok nmX11 hown hK hP hD hS 0 rfl rfl 15 (by decide) hw_0 (fun _ h9 => h9) rfl (by decide +kernel) rfl rfl (Nat.le_of_ble_eq_true rfl) dX11_feed_111 (fun H locs hPa hDa hS => ?_)
              clear hP hD
              have hP : va_P (dC, dI) vwCl [(m0, .inr (11, oX11 ra (upd y23_0 1 ((y23_0 1) + 1)))), (ra 13, .inl (kI, 700, .inl f56))] H := hPa
              have hD : va_D A [(m0, .inr (11, oX11 ra (upd y23_0 1 ((y23_0 1) + 1)))), (ra 13, .inl (kI, 700, .inl f56))] := hDa
              clear hPa hDa
              refine lv_iinc (v := v23_loc6 + Int32.ofInt 1) (lv' := [(6, .int (v23_loc6 + Int32.ofInt 1)), (7, .int p2), (0, .ref m0), (1, .int p0), (2, .int p1), (3, .int p2), (4, .int p3), (5, .int p4)]) hx hb dX11_feed_114 hl (k := 7) rfl (rfl) (Nat.le_of_ble_eq_true rfl) rfl (fun ls hl => ?_)
              have b60 : iv 9 12 (v23_loc6 + Int32.ofInt 1) := iv_add b45 ivo_1 (by decide) (by decide) (by decide) (by decide)
              have t61 : (v23_loc6 + Int32.ofInt 1).toInt = v23_loc6.toInt + 1 := iv_inc 1 b45 (by decide) (by decide) (by decide) (by decide)
              refine lv_goto (tgt := 23) hx hb dX11_feed_117 rfl ?_
              exact ih23 (upd y23_0 1 ((y23_0 1) + 1)) f56 (v23_loc6 + Int32.ofInt 1) _ _ _ (ms_up (c := 1) (d := 0) b45 hm23 (by decide) (iv_inc 1 b45 (by decide) (by decide) (by decide) (by decide)) (by decide) rfl) ((fI_u hI23_0 (k := 1) ((iv_w b58 (by decide) (by decide))))) (hf57) ((iv_w b60 (by decide) (by decide))) (h23_4) (h23_5) ((show ((y23_0 1) + 1).toInt = (x0 1).toInt + (v23_loc6 + Int32.ofInt 1).toInt from by have q5 := hfd_23; omega)) ((show (x0 1).toInt + 20 ≤ 700 from hro_23)) ((show y23_0 10 = x0 10 from hfp_23)) ((show y23_0 11 = x0 11 from hor_23)) ((show y23_0 14 = x0 14 from hirl_23)) (hP) (hD) hS (lv_sub hl [2, 3, 4, 5, 6, 7, 0] rfl)
          · have b62 : iv 4 7 v23_loc6 := iv_ltL (Int32.not_le.mp c6) b5 ivk_8 (by decide) (by decide)
            refine lv_iload_n hx hb dX11_feed_47 rfl (lv_at hl 2 rfl) ?_
            refine lv_goto (tgt := 76) hx hb dX11_feed_48 rfl ?_
            refine lv_istore (lv' := [(7, .int p1), (0, .ref m0), (1, .int p0), (2, .int p1), (3, .int p2), (4, .int p3), (5, .int p4), (6, .int v23_loc6)]) hx hb dX11_feed_76 hl (Nat.le_of_ble_eq_true rfl) rfl (fun ls hl => ?_)
            have b63 : iv 0 699 (y23_0 1) := feed_699 hfd_23 hro_23 (hI23_0 1 : iv 0 700 (y23_0 1)) (iv_w b62 (by decide) (by decide))
            refine lv_aload_n hx hb dX11_feed_78 rfl (lv_at hl 1 rfl) ?_
            refine va_get (D := (dC, dI)) (ci := 11) (v := .ref (ra 13)) (C := RX11) (T := TX11) (N := 61) hx hb hts hin11 hown hK hP 0 rfl rfl 14 (Nat.le_of_ble_eq_true rfl) hw_1 (fun _ h9 => h9) rfl dX11_feed_79 ?_
            refine lv_aload_n hx hb dX11_feed_82 rfl (lv_at hl 1 rfl) ?_
            refine va_get (D := (dC, dI)) (ci := 11) (v := .int (y23_0 1)) (C := RX11) (T := TX11) (N := 61) hx hb hts hin11 hown hK hP 0 rfl rfl 15 (Nat.le_of_ble_eq_true rfl) hw_0 (fun _ h9 => h9) rfl dX11_feed_83 ?_
            refine lv_iload hx hb dX11_feed_86 (lv_at hl 0 rfl) ?_
            refine lv_bipush (v := 24) hx hb dX11_feed_88 bp_24 ?_
            refine lv_bipush (v := 8) hx hb dX11_feed_90 bp_8 ?_
            refine lv_iload hx hb dX11_feed_92 (lv_at hl 7 rfl) ?_
            refine lv_iconst (v := 4) hx hb dX11_feed_94 ic_4 ?_
            refine lv_irem hx hb dX11_feed_95 (by decide) ?_
            refine iv_top (a := 0) (b := 3) (iv_rem b62 ivk_4 (by decide) (by decide) (by decide) (by decide)) (fun z64 b65 => ?_)
            refine lv_imul hx hb dX11_feed_96 ?_
            refine iv_top (a := 0) (b := 24) (iv_mul ivk_8 b65 (by decide) (by decide) (by decide) (by decide) (by decide)) (fun z66 b67 => ?_)
            refine lv_isub hx hb dX11_feed_97 ?_
            refine iv_top (a := 0) (b := 24) (iv_sub ivk_24 b67 (by decide) (by decide) (by decide) (by decide)) (fun z68 b69 => ?_)
            refine lv_ishr hx hb dX11_feed_98 ?_
            refine lv_topi (fun z70 _ => ?_)
            refine lv_sipush (v := 255) hx hb dX11_feed_99 (by decide) ?_
            refine lv_iand hx hb dX11_feed_102 ?_
            refine iv_top (a := 0) (b := 255) (iv_and (m := 255) (by decide) (by decide) (by decide)) (fun z71 b72 => ?_)
            refine va_iast hx hb hK hP hD hS 1 1 rfl rfl (iv_in b63 (by decide) (by decide)) dX11_feed_103 (fun H locs hPa hDa hS => ?_)
            clear hP hD
            have hP : va_P (dC, dI) vwCl [(m0, .inr (11, oX11 ra y23_0)), (ra 13, .inl (kI, 700, .inl (upd g23_1 (y23_0 1).toNatClampNeg z71)))] H := hPa
            have hD : va_D A [(m0, .inr (11, oX11 ra y23_0)), (ra 13, .inl (kI, 700, .inl (upd g23_1 (y23_0 1).toNatClampNeg z71)))] := hDa
            clear hPa hDa
            have hf74 : fI (fun _ => 0) (fun _ => 255) (upd g23_1 (y23_0 1).toNatClampNeg z71) := fI_u hI23_1 (k := (y23_0 1).toNatClampNeg) (b72)
            generalize (upd g23_1 (y23_0 1).toNatClampNeg z71) = f73 at hP hD hf74
            refine lv_aload_n hx hb dX11_feed_104 rfl (lv_at hl 1 rfl) ?_
            refine lv_dup hx hb dX11_feed_105 rfl ?_
            refine va_get (D := (dC, dI)) (ci := 11) (v := .int (y23_0 1)) (C := RX11) (T := TX11) (N := 61) hx hb hts hin11 hown hK hP 0 rfl rfl 15 (Nat.le_of_ble_eq_true rfl) hw_0 (fun _ h9 => h9) rfl dX11_feed_106 ?_
            refine lv_iconst (v := 1) hx hb dX11_feed_109 ic_1 ?_
            refine lv_iadd hx hb dX11_feed_110 ?_
            have b75 : iv 1 700 ((y23_0 1) + 1) := iv_add b63 ivk_1 (by decide) (by decide) (by decide) (by decide)
            have t76 : ((y23_0 1) + 1).toInt = (y23_0 1).toInt + 1 := iv_addc b63 (by decide) (by decide) (by decide)
            refine va_put (D := (dC, dI)) (ci := 11) (v := .int ((y23_0 1) + 1)) (ty := .int) (C := RX11) (T := TX11) (N := 61) hx hb hts hin11 tyX11 tyX11_ok nmX11 hown hK hP hD hS 0 rfl rfl 15 (by decide) hw_0 (fun _ h9 => h9) rfl (by decide +kernel) rfl rfl (Nat.le_of_ble_eq_true rfl) dX11_feed_111 (fun H locs hPa hDa hS => ?_)
            clear hP hD
            have hP : va_P (dC, dI) vwCl [(m0, .inr (11, oX11 ra (upd y23_0 1 ((y23_0 1) + 1)))), (ra 13, .inl (kI, 700, .inl f73))] H := hPa
            have hD : va_D A [(m0, .inr (11, oX11 ra (upd y23_0 1 ((y23_0 1) + 1)))), (ra 13, .inl (kI, 700, .inl f73))] := hDa
            clear hPa hDa
            refine lv_iinc (v := v23_loc6 + Int32.ofInt 1) (lv' := [(6, .int (v23_loc6 + Int32.ofInt 1)), (7, .int p1), (0, .ref m0), (1, .int p0), (2, .int p1), (3, .int p2), (4, .int p3), (5, .int p4)]) hx hb dX11_feed_114 hl (k := 7) rfl (rfl) (Nat.le_of_ble_eq_true rfl) rfl (fun ls hl => ?_)
            have b77 : iv 5 8 (v23_loc6 + Int32.ofInt 1) := iv_add b62 ivo_1 (by decide) (by decide) (by decide) (by decide)
            have t78 : (v23_loc6 + Int32.ofInt 1).toInt = v23_loc6.toInt + 1 := iv_inc 1 b62 (by decide) (by decide) (by decide) (by decide)
            refine lv_goto (tgt := 23) hx hb dX11_feed_117 rfl ?_
            exact ih23 (upd y23_0 1 ((y23_0 1) + 1)) f73 (v23_loc6 + Int32.ofInt 1) _ _ _ (ms_up (c := 1) (d := 0) b62 hm23 (by decide) (iv_inc 1 b62 (by decide) (by decide) (by decide) (by decide)) (by decide) rfl) ((fI_u hI23_0 (k := 1) ((iv_w b75 (by decide) (by decide))))) (hf74) ((iv_w b77 (by decide) (by decide))) (h23_4) (h23_5) ((show ((y23_0 1) + 1).toInt = (x0 1).toInt + (v23_loc6 + Int32.ofInt 1).toInt from by have q5 := hfd_23; omega)) ((show (x0 1).toInt + 20 ≤ 700 from hro_23)) ((show y23_0 10 = x0 10 from hfp_23)) ((show y23_0 11 = x0 11 from hor_23)) ((show y23_0 14 = x0 14 from hirl_23)) (hP) (hD) hS (lv_sub hl [2, 3, 4, 5, 6, 7, 0] rfl)
        · have b79 : iv 0 3 v23_loc6 := iv_ltL (Int32.not_le.mp c4) b3 ivk_4 (by decide) (by decide)
          refine lv_iload_n hx hb dX11_feed_36 rfl (lv_at hl 1 rfl) ?_
          refine lv_goto (tgt := 76) hx hb dX11_feed_37 rfl ?_
          refine lv_istore (lv' := [(7, .int p0), (0, .ref m0), (1, .int p0), (2, .int p1), (3, .int p2), (4, .int p3), (5, .int p4), (6, .int v23_loc6)]) hx hb dX11_feed_76 hl (Nat.le_of_ble_eq_true rfl) rfl (fun ls hl => ?_)
          have b80 : iv 0 699 (y23_0 1) := feed_699 hfd_23 hro_23 (hI23_0 1 : iv 0 700 (y23_0 1)) (iv_w b79 (by decide) (by decide))
          refine lv_aload_n hx hb dX11_feed_78 rfl (lv_at hl 1 rfl) ?_
          refine va_get (D := (dC, dI)) (ci := 11) (v := .ref (ra 13)) (C := RX11) (T := TX11) (N := 61) hx hb hts hin11 hown hK hP 0 rfl rfl 14 (Nat.le_of_ble_eq_true rfl) hw_1 (fun _ h9 => h9) rfl dX11_feed_79 ?_
          refine lv_aload_n hx hb dX11_feed_82 rfl (lv_at hl 1 rfl) ?_
          refine va_get (D := (dC, dI)) (ci := 11) (v := .int (y23_0 1)) (C := RX11) (T := TX11) (N := 61) hx hb hts hin11 hown hK hP 0 rfl rfl 15 (Nat.le_of_ble_eq_true rfl) hw_0 (fun _ h9 => h9) rfl dX11_feed_83 ?_
          refine lv_iload hx hb dX11_feed_86 (lv_at hl 0 rfl) ?_
          refine lv_bipush (v := 24) hx hb dX11_feed_88 bp_24 ?_
          refine lv_bipush (v := 8) hx hb dX11_feed_90 bp_8 ?_
          refine lv_iload hx hb dX11_feed_92 (lv_at hl 7 rfl) ?_
          refine lv_iconst (v := 4) hx hb dX11_feed_94 ic_4 ?_
          refine lv_irem hx hb dX11_feed_95 (by decide) ?_
          refine iv_top (a := 0) (b := 3) (iv_rem b79 ivk_4 (by decide) (by decide) (by decide) (by decide)) (fun z81 b82 => ?_)
          refine lv_imul hx hb dX11_feed_96 ?_
          refine iv_top (a := 0) (b := 24) (iv_mul ivk_8 b82 (by decide) (by decide) (by decide) (by decide) (by decide)) (fun z83 b84 => ?_)
          refine lv_isub hx hb dX11_feed_97 ?_
          refine iv_top (a := 0) (b := 24) (iv_sub ivk_24 b84 (by decide) (by decide) (by decide) (by decide)) (fun z85 b86 => ?_)
          refine lv_ishr hx hb dX11_feed_98 ?_
          refine lv_topi (fun z87 _ => ?_)
          refine lv_sipush (v := 255) hx hb dX11_feed_99 (by decide) ?_
          refine lv_iand hx hb dX11_feed_102 ?_
          refine iv_top (a := 0) (b := 255) (iv_and (m := 255) (by decide) (by decide) (by decide)) (fun z88 b89 => ?_)
          refine va_iast hx hb hK hP hD hS 1 1 rfl rfl (iv_in b80 (by decide) (by decide)) dX11_feed_103 (fun H locs hPa hDa hS => ?_)
          clear hP hD
          have hP : va_P (dC, dI) vwCl [(m0, .inr (11, oX11 ra y23_0)), (ra 13, .inl (kI, 700, .inl (upd g23_1 (y23_0 1).toNatClampNeg z88)))] H := hPa
          have hD : va_D A [(m0, .inr (11, oX11 ra y23_0)), (ra 13, .inl (kI, 700, .inl (upd g23_1 (y23_0 1).toNatClampNeg z88)))] := hDa
          clear hPa hDa
          have hf91 : fI (fun _ => 0) (fun _ => 255) (upd g23_1 (y23_0 1).toNatClampNeg z88) := fI_u hI23_1 (k := (y23_0 1).toNatClampNeg) (b89)
          generalize (upd g23_1 (y23_0 1).toNatClampNeg z88) = f90 at hP hD hf91
          refine lv_aload_n hx hb dX11_feed_104 rfl (lv_at hl 1 rfl) ?_
          refine lv_dup hx hb dX11_feed_105 rfl ?_
          refine va_get (D := (dC, dI)) (ci := 11) (v := .int (y23_0 1)) (C := RX11) (T := TX11) (N := 61) hx hb hts hin11 hown hK hP 0 rfl rfl 15 (Nat.le_of_ble_eq_true rfl) hw_0 (fun _ h9 => h9) rfl dX11_feed_106 ?_
          refine lv_iconst (v := 1) hx hb dX11_feed_109 ic_1 ?_
          refine lv_iadd hx hb dX11_feed_110 ?_
          have b92 : iv 1 700 ((y23_0 1) + 1) := iv_add b80 ivk_1 (by decide) (by decide) (by decide) (by decide)
          have t93 : ((y23_0 1) + 1).toInt = (y23_0 1).toInt + 1 := iv_addc b80 (by decide) (by decide) (by decide)
          refine va_put (D := (dC, dI)) (ci := 11) (v := .int ((y23_0 1) + 1)) (ty := .int) (C := RX11) (T := TX11) (N := 61) hx hb hts hin11 tyX11 tyX11_ok nmX11 hown hK hP hD hS 0 rfl rfl 15 (by decide) hw_0 (fun _ h9 => h9) rfl (by decide +kernel) rfl rfl (Nat.le_of_ble_eq_true rfl) dX11_feed_111 (fun H locs hPa hDa hS => ?_)
          clear hP hD
          have hP : va_P (dC, dI) vwCl [(m0, .inr (11, oX11 ra (upd y23_0 1 ((y23_0 1) + 1)))), (ra 13, .inl (kI, 700, .inl f90))] H := hPa
          have hD : va_D A [(m0, .inr (11, oX11 ra (upd y23_0 1 ((y23_0 1) + 1)))), (ra 13, .inl (kI, 700, .inl f90))] := hDa
          clear hPa hDa
          refine lv_iinc (v := v23_loc6 + Int32.ofInt 1) (lv' := [(6, .int (v23_loc6 + Int32.ofInt 1)), (7, .int p0), (0, .ref m0), (1, .int p0), (2, .int p1), (3, .int p2), (4, .int p3), (5, .int p4)]) hx hb dX11_feed_114 hl (k := 7) rfl (rfl) (Nat.le_of_ble_eq_true rfl) rfl (fun ls hl => ?_)
          have b94 : iv 1 4 (v23_loc6 + Int32.ofInt 1) := iv_add b79 ivo_1 (by decide) (by decide) (by decide) (by decide)
          have t95 : (v23_loc6 + Int32.ofInt 1).toInt = v23_loc6.toInt + 1 := iv_inc 1 b79 (by decide) (by decide) (by decide) (by decide)
          refine lv_goto (tgt := 23) hx hb dX11_feed_117 rfl ?_
          exact ih23 (upd y23_0 1 ((y23_0 1) + 1)) f90 (v23_loc6 + Int32.ofInt 1) _ _ _ (ms_up (c := 1) (d := 0) b79 hm23 (by decide) (iv_inc 1 b79 (by decide) (by decide) (by decide) (by decide)) (by decide) rfl) ((fI_u hI23_0 (k := 1) ((iv_w b92 (by decide) (by decide))))) (hf91) ((iv_w b94 (by decide) (by decide))) (h23_4) (h23_5) ((show ((y23_0 1) + 1).toInt = (x0 1).toInt + (v23_loc6 + Int32.ofInt 1).toInt from by have q5 := hfd_23; omega)) ((show (x0 1).toInt + 20 ≤ 700 from hro_23)) ((show y23_0 10 = x0 10 from hfp_23)) ((show y23_0 11 = x0 11 from hor_23)) ((show y23_0 14 = x0 14 from hirl_23)) (hP) (hD) hS (lv_sub hl [2, 3, 4, 5, 6, 7, 0] rfl)
  refine lv_aload_n hx hb dX11_feed_0 rfl (lv_at hl 0 rfl) ?_
  refine lv_iconst (v := 0) hx hb dX11_feed_1 ic_0 ?_
  refine va_put (D := (dC, dI)) (ci := 11) (v := .int 0) (ty := .int) (C := RX11) (T := TX11) (N := 61) hx hb hts hin11 tyX11 tyX11_ok nmX11 hown hK hP hD hS 0 rfl rfl 2 (by decide) hw_2 (fun _ h9 => h9) rfl (by decide +kernel) rfl rfl (Nat.le_of_ble_eq_true rfl) dX11_feed_2 (fun H locs hPa hDa hS => ?_)
  clear hP hD
  have hP : va_P (dC, dI) vwCl [(m0, .inr (11, oX11 ra (upd x0 0 0))), (ra 13, .inl (kI, 700, .inl q_tape))] H := hPa
  have hD : va_D A [(m0, .inr (11, oX11 ra (upd x0 0 0))), (ra 13, .inl (kI, 700, .inl q_tape))] := hDa
  clear hPa hDa
  refine lv_aload_n hx hb dX11_feed_5 rfl (lv_at hl 0 rfl) ?_
  refine va_get (D := (dC, dI)) (ci := 11) (v := .int (x0 1)) (C := RX11) (T := TX11) (N := 61) hx hb hts hin11 hown hK hP 0 rfl rfl 15 (Nat.le_of_ble_eq_true rfl) hw_0 (fun _ h9 => h9) rfl dX11_feed_6 ?_
  refine lv_bipush (v := 20) hx hb dX11_feed_9 bp_20 ?_
  refine lv_iadd hx hb dX11_feed_11 ?_
  have b96 : iv 20 720 ((x0 1) + 20) := iv_add (hX 1 : iv 0 700 (x0 1)) ivk_20 (by decide) (by decide) (by decide) (by decide)
  have t97 : ((x0 1) + 20).toInt = (x0 1).toInt + 20 := iv_addc (hX 1 : iv 0 700 (x0 1)) (by decide) (by decide) (by decide)
  refine lv_sipush (v := 700) hx hb dX11_feed_12 (by decide) ?_
  refine lv_icmp_le (tgt := 20) hx hb dX11_feed_15 rfl (fun c98 => ?_) (fun c98 => ?_)
  · have b99 : iv 20 700 ((x0 1) + 20) := iv_leL c98 b96 ivk_700 (by decide) (by decide)
    refine lv_iconst (v := 0) hx hb dX11_feed_20 ic_0 ?_
    refine lv_istore (lv' := [(6, .int 0), (0, .ref m0), (1, .int p0), (2, .int p1), (3, .int p2), (4, .int p3), (5, .int p4)]) hx hb dX11_feed_21 hl (Nat.le_of_ble_eq_true rfl) rfl (fun ls hl => ?_)
    exact hJ23 _ (upd x0 0 0) q_tape 0 _ _ _ (Nat.lt_succ_self _) ((fI_u hX (k := 0) ((iv_w ivk_0 (by decide) (by decide))))) (hq_tape) ((iv_w ivk_0 (by decide) (by decide))) (ivk_0) (b99) ((show (x0 1).toInt = (x0 1).toInt + ((0 : Int32)).toInt from by rw [show ((0 : Int32)).toInt = 0 from by decide]; omega)) ((show (x0 1).toInt + 20 ≤ 700 from room_20 (hX 1 : iv 0 700 (x0 1)) c98)) ((show x0 10 = x0 10 from rfl)) ((show x0 11 = x0 11 from rfl)) ((show x0 14 = x0 14 from rfl)) (hP) (hD) hS (lv_sub hl [1, 2, 3, 4, 5, 6, 0] rfl)
  · have b100 : iv 701 720 ((x0 1) + 20) := iv_ltR (Int32.not_le.mp c98) ivk_700 b96 (by decide) (by decide)
    refine lv_iconst (v := (-1)) hx hb dX11_feed_18 ic_m1 ?_
    have hP9 := hP
    have hD9 := hD
    exact W.iret (v := (-1)) hx hb hr (fun t ht hW => ⟨⟨(-1), (), rfl, (iv_w ivk_m1 (by decide) (by decide)), upd x0 0 0, q_tape, (fI_u hX (k := 0) ((iv_w ivk_0 (by decide) (by decide)))), hq_tape, (show x0 10 = x0 10 from rfl), (show x0 11 = x0 11 from rfl), (show x0 14 = x0 14 from rfl), by rw [ht]; exact hP9, hD9⟩, hS.F ht⟩) hS.2.2 dX11_feed_19
def rm_s11_byteAt : Room := { frames := 0, cells := 0, slots := 0, locals := 0 }
set_option maxHeartbeats 4000000 in
set_option maxRecDepth 100000 in
theorem s11_byteAt (l : Launch) (dC : Nat → ClassId) (dI : Nat → Nat → Nat) (kB kI kJ kZ kC kS : ClassId) (sz : Nat) (m0 : Nat) (ra : Nat → Nat) (x0 : Nat → Int32) (q_tape : Nat → Int32) (p0 : Int32) (hX : fI lX11 hX11 x0) (hq_tape : fI (fun _ => 0) (fun _ => 255) q_tape) (hp0 : iv 0 700 p0) : Met l yX11_byteAt wsX11_byteAt rm_s11_byteAt (va_Pc [.ref m0, .int p0] (fun U => U.heap.size = sz ∧ va_P (dC, dI) vwCl [(m0, .inr (11, oX11 ra x0)), (ra 13, .inl (kI, 700, .inl q_tape))] U.heap ∧ kE dC dI kB kI kJ kZ kC kS U ∧ va_D (fun _ => True) [(m0, .inr (11, oX11 ra x0)), (ra 13, .inl (kI, 700, .inl q_tape))])) (va_Qi (fun (r : Int32) (_ : Unit) => r = byA q_tape (x0 3) p0 ∧ iv (-1) 255 r) (fun _ t => (byA q_tape (x0 3) p0 = -1 ∨ iv 0 699 p0) ∧ va_P (dC, dI) vwCl [(m0, .inr (11, oX11 ra x0)), (ra 13, .inl (kI, 700, .inl q_tape))] t.heap ∧ va_D (va_A [(m0, .inr (11, oX11 ra x0)), (ra 13, .inl (kI, 700, .inl q_tape))] sz) [(m0, .inr (11, oX11 ra x0)), (ra 13, .inl (kI, 700, .inl q_tape))]) (va_A [(m0, .inr (11, oX11 ra x0)), (ra 13, .inl (kI, 700, .inl q_tape))] sz)) 0 0 (va_A [(m0, .inr (11, oX11 ra x0)), (ra 13, .inl (kI, 700, .inl q_tape))] sz) := by
  refine Met.ofW (cc := cX11_byteAt) (maxL := 2) (ret := (some .int)) (by decide) rfl ?_
  intro p e s m args0 below meth c s₁ B hml hv
  obtain ⟨hargs, hsz, hP, hE, hD0⟩ := hv
  have hx := B.exec
  have hb := B.bytes
  have hr := B.returns
  have hts := atoms_spec (ws := wsX11_byteAt) B.pre
  have hown : s.vm.findClass RX11 = some m.cls := findClass_of_methodNamed B.named
  have hlocks := B.notSynchronized
  have hK := hE.1
  have hin11 : ∀ w ∈ wsX110, w ∈ wsX11_byteAt := fun _ h9 => List.mem_cons_of_mem _ (List.mem_append_right _ h9)
  have hw_0 := hts (.fieldLink RX11 148 "PathProberModel" "textSize" "I") (List.mem_of_getElem? (i := 1) rfl)
  have hw_1 := hts (.fieldLink RX11 66 "PathProberModel" "tape" "[I") (List.mem_of_getElem? (i := 2) rfl)
  subst hsz
  have hD := hD0.self (sz := s.heap.size)
  generalize hAe : va_A [(m0, .inr (11, oX11 ra x0)), (ra 13, .inl (kI, 700, .inl q_tape))] s.heap.size = A at hD ⊢
  have hA : ∀ q : Nat, s.heap.size ≤ q → A q := fun q h => by rw [← hAe]; exact Or.inr h
  have hS : va_S A s.heap s.heap [] := va_S.rf
  have hP : va_P (dC, dI) vwCl [(m0, .inr (11, oX11 ra x0)), (ra 13, .inl (kI, 700, .inl q_tape))] s.heap := hP
  have hl := lv_entry ([.ref m0, .int p0]) (n := 2) (Nat.le_of_ble_eq_true rfl)
  have hla : entryFrame m args0 2 = entryFrame m ([.ref m0, .int p0] : List Value).toArray 2 := by rw [hargs]
  rw [hla, lg_entry_eq]
  generalize (lg_sl ([.ref m0, .int p0]) ++ List.replicate (2 - (lg_sl ([.ref m0, .int p0])).length) Slot.unset).toArray = ls at hl ⊢
  have hl : lv_has ls 2 [(0, .ref m0), (1, .int p0)] := hl
  refine lv_iload_n hx hb dX11_byteAt_0 rfl (lv_at hl 1 rfl) ?_
  refine lv_aload_n hx hb dX11_byteAt_1 rfl (lv_at hl 0 rfl) ?_
  refine va_get (D := (dC, dI)) (ci := 11) (v := .int (x0 3)) (C := RX11) (T := TX11) (N := 61) hx hb hts hin11 hown hK hP 0 rfl rfl 17 (Nat.le_of_ble_eq_true rfl) hw_0 (fun _ h9 => h9) rfl dX11_byteAt_2 ?_
  refine lv_icmp_ge (tgt := 17) hx hb dX11_byteAt_5 rfl (fun c1 => ?_) (fun c1 => ?_)
  · refine lv_iconst (v := (-1)) hx hb dX11_byteAt_17 ic_m1 ?_
    have hP9 := hP
    have hD9 := hD
    exact W.iret (v := (-1)) hx hb hr (fun t ht hW => ⟨⟨(-1), (), rfl, ⟨byA_f c1, (iv_w ivk_m1 (by decide) (by decide))⟩, (show byA q_tape (x0 3) p0 = -1 ∨ iv 0 699 p0 from byA_699 (hX 3 : iv 0 700 (x0 3)) hp0), by rw [ht]; exact hP9, hD9⟩, hS.F ht⟩) hS.2.2 dX11_byteAt_18
  · have b2 : iv 0 699 p0 := iv_ltL (Int32.not_le.mp c1) hp0 (hX 3 : iv 0 700 (x0 3)) (by decide) (by decide)
    have b3 : iv 1 700 (x0 3) := iv_ltR (Int32.not_le.mp c1) hp0 (hX 3 : iv 0 700 (x0 3)) (by decide) (by decide)
    refine lv_aload_n hx hb dX11_byteAt_8 rfl (lv_at hl 0 rfl) ?_
    refine va_get (D := (dC, dI)) (ci := 11) (v := .ref (ra 13)) (C := RX11) (T := TX11) (N := 61) hx hb hts hin11 hown hK hP 0 rfl rfl 14 (Nat.le_of_ble_eq_true rfl) hw_1 (fun _ h9 => h9) rfl dX11_byteAt_9 ?_
    refine lv_iload_n hx hb dX11_byteAt_12 rfl (lv_at hl 1 rfl) ?_
    refine va_iald hx hb hK hP 1 1 rfl rfl (iv_in b2 (by decide) (by decide)) dX11_byteAt_13 ?_
    have b4 : iv 0 255 (q_tape p0.toNatClampNeg) := hq_tape _
    refine lv_goto (tgt := 18) hx hb dX11_byteAt_14 rfl ?_
    have hP9 := hP
    have hD9 := hD
    exact W.iret (v := q_tape p0.toNatClampNeg) hx hb hr (fun t ht hW => ⟨⟨q_tape p0.toNatClampNeg, (), rfl, ⟨byA_t (Int32.not_le.mp c1), (iv_w b4 (by decide) (by decide))⟩, (show byA q_tape (x0 3) p0 = -1 ∨ iv 0 699 p0 from byA_699 (iv_w b3 (by decide) (by decide)) hp0), by rw [ht]; exact hP9, hD9⟩, hS.F ht⟩) hS.2.2 dX11_byteAt_18
def rm_s11_stepOn : Room := { frames := 1, cells := 0, slots := 0, locals := 21 }
set_option maxHeartbeats 4000000 in
set_option maxRecDepth 100000 in
theorem s11_stepOn (l : Launch) (dC : Nat → ClassId) (dI : Nat → Nat → Nat) (kB kI kJ kZ kC kS : ClassId) (sz : Nat) (m0 : Nat) (ra : Nat → Nat) (x0 : Nat → Int32) (q_tape : Nat → Int32) (tT : Nat → Int32) (nN : Int32) (uS : StT) (hX : fI lX11 hX11 x0) (hq_tape : fI (fun _ => 0) (fun _ => 255) q_tape) (hRr : x0 3 = nN) (hSt : StpT tT nN x0 uS) (hTQ : tT = q_tape) : Met l yX11_stepOn wsX11_stepOn rm_s11_stepOn (va_Pc [.ref m0] (fun U => U.heap.size = sz ∧ va_P (dC, dI) vwCl [(m0, .inr (11, oX11 ra x0)), (ra 13, .inl (kI, 700, .inl q_tape))] U.heap ∧ kE dC dI kB kI kJ kZ kC kS U ∧ va_D (fun _ => True) [(m0, .inr (11, oX11 ra x0)), (ra 13, .inl (kI, 700, .inl q_tape))])) (va_Qv (fun (_ : Unit) => True) (fun _ t => ∃ (x0' : Nat → Int32), fI lX11 hX11 x0' ∧ ((x0 2).toInt ≤ (x0' 2).toInt) ∧ (x0' 3 = x0 3) ∧ (x0' 4 = 0 ∨ (x0 2).toInt + 1 ≤ (x0' 2).toInt) ∧ (RRd tT nN x0' (uS)) ∧ (x0' 1 = x0 1) ∧ (x0' 10 = x0 10) ∧ (x0' 11 = x0 11) ∧ (x0' 14 = x0 14) ∧ va_P (dC, dI) vwCl [(m0, .inr (11, oX11 ra x0')), (ra 13, .inl (kI, 700, .inl q_tape))] t.heap ∧ va_D (va_A [(m0, .inr (11, oX11 ra x0)), (ra 13, .inl (kI, 700, .inl q_tape))] sz) [(m0, .inr (11, oX11 ra x0')), (ra 13, .inl (kI, 700, .inl q_tape))]) (va_A [(m0, .inr (11, oX11 ra x0)), (ra 13, .inl (kI, 700, .inl q_tape))] sz)) 0 0 (va_A [(m0, .inr (11, oX11 ra x0)), (ra 13, .inl (kI, 700, .inl q_tape))] sz) := by
  refine Met.ofW (cc := cX11_stepOn) (maxL := 2) (ret := none) (by decide) rfl ?_
  intro p e s m args0 below meth c s₁ B hml hv
  obtain ⟨hargs, hsz, hP, hE, hD0⟩ := hv
  have hx := B.exec
  have hb := B.bytes
  have hr := B.returns
  have hts := atoms_spec (ws := wsX11_stepOn) B.pre
  have hown : s.vm.findClass RX11 = some m.cls := findClass_of_methodNamed B.named
  have hlocks := B.notSynchronized
  have hK := hE.1
  have hin11 : ∀ w ∈ wsX110, w ∈ wsX11_stepOn := fun _ h9 => List.mem_cons_of_mem _ (List.mem_append_right _ h9)
  have hw_0 := hts (.fieldLink RX11 151 "PathProberModel" "at" "I") (List.mem_of_getElem? (i := 1) rfl)
  have hw_1 := hts (.fieldLink RX11 161 "PathProberModel" "token" "I") (List.mem_of_getElem? (i := 3) rfl)
  have hw_2 := hts (.fieldLink RX11 181 "PathProberModel" "stops" "I") (List.mem_of_getElem? (i := 10) rfl)
  have hw_3 := hts (.constant RX11 174 (100000)) (List.mem_of_getElem? (i := 5) rfl)
  have hw_4 := hts (.fieldLink RX11 171 "PathProberModel" "number" "I") (List.mem_of_getElem? (i := 4) rfl)
  have hw_5 := hts (.methodLink RX11 175 Lib.Math.min.name) (List.mem_of_getElem? (i := 6) rfl)
  have hw_6 := hts (.static Lib.Math.min.name) (List.mem_of_getElem? (i := 7) rfl)
  have hw_7 := hts (.initialized "java/lang/Math") (List.mem_of_getElem? (i := 8) rfl)
  have hw_8 := hts (.code Lib.Math.min.name Lib.Math.min.code 2 (some .int)) (List.mem_of_getElem? (i := 9) rfl)
  have hw_9 := hts (.fieldLink RX11 158 "PathProberModel" "begins" "I") (List.mem_of_getElem? (i := 2) rfl)
  subst hsz
  have hD := hD0.self (sz := s.heap.size)
  generalize hAe : va_A [(m0, .inr (11, oX11 ra x0)), (ra 13, .inl (kI, 700, .inl q_tape))] s.heap.size = A at hD ⊢
  have hA : ∀ q : Nat, s.heap.size ≤ q → A q := fun q h => by rw [← hAe]; exact Or.inr h
  have hS : va_S A s.heap s.heap [] := va_S.rf
  have hP : va_P (dC, dI) vwCl [(m0, .inr (11, oX11 ra x0)), (ra 13, .inl (kI, 700, .inl q_tape))] s.heap := hP
  have hl := lv_entry ([.ref m0]) (n := 2) (Nat.le_of_ble_eq_true rfl)
  have hla : entryFrame m args0 2 = entryFrame m ([.ref m0] : List Value).toArray 2 := by rw [hargs]
  rw [hla, lg_entry_eq]
  generalize (lg_sl ([.ref m0]) ++ List.replicate (2 - (lg_sl ([.ref m0])).length) Slot.unset).toArray = ls at hl ⊢
  have hl : lv_has ls 2 [(0, .ref m0)] := hl
  have hJ123 : ∀ (n : Nat) (y123_0 : Nat → Int32) (v123_loc1 : Int32) (H : Heap) (locs : List Loc) (ls : Array Slot), (700 - (y123_0 2).toInt).toNat < n → fI lX11 hX11 y123_0 → iv 48 57 v123_loc1 → iv 0 699 (y123_0 6) → ((x0 2).toInt + 1 ≤ (y123_0 2).toInt ∨ ¬ isDg (byA q_tape (x0 3) (y123_0 2)) = 0) → (R123 tT nN x0 y123_0) → ((x0 2).toInt ≤ (y123_0 2).toInt) → (y123_0 3 = x0 3) → (y123_0 1 = x0 1) → (y123_0 10 = x0 10) → (y123_0 11 = x0 11) → (y123_0 14 = x0 14) → va_P (dC, dI) vwCl [(m0, .inr (11, oX11 ra y123_0)), (ra 13, .inl (kI, 700, .inl q_tape))] H → va_D A [(m0, .inr (11, oX11 ra y123_0)), (ra 13, .inl (kI, 700, .inl q_tape))] → va_S A s.heap H locs → lv_has ls 2 [(0, .ref m0), (1, .int v123_loc1)] → W p l e (headSpec wsX11_stepOn rm_s11_stepOn).room s m args0 below meth c H locs (0) (0) (MQ below (va_Qv (fun (_ : Unit) => True) (fun _ t => ∃ (x0' : Nat → Int32), fI lX11 hX11 x0' ∧ ((x0 2).toInt ≤ (x0' 2).toInt) ∧ (x0' 3 = x0 3) ∧ (x0' 4 = 0 ∨ (x0 2).toInt + 1 ≤ (x0' 2).toInt) ∧ (RRd tT nN x0' (uS)) ∧ (x0' 1 = x0 1) ∧ (x0' 10 = x0 10) ∧ (x0' 11 = x0 11) ∧ (x0' 14 = x0 14) ∧ va_P (dC, dI) vwCl [(m0, .inr (11, oX11 ra x0')), (ra 13, .inl (kI, 700, .inl q_tape))] t.heap ∧ va_D A [(m0, .inr (11, oX11 ra x0')), (ra 13, .inl (kI, 700, .inl q_tape))]) A) args0 s 0 0 A) (F0 m 123 ls []) := by
    intro n
    induction n with
    | zero => intro y123_0 v123_loc1 H locs ls hm123; exact absurd hm123 (Nat.not_lt_zero _)
    | succ n ih123 =>
      intro y123_0 v123_loc1 H locs ls hm123 hI123_0 h123_2 h123_3 hsx_123 hk_123 hat_123 hts_123 htp_123 hfp_123 hor_123 hirl_123 hP hD hS hl
      refine lv_aload_n hx hb dX11_stepOn_123 rfl (lv_at hl 0 rfl) ?_
      refine lv_aload_n hx hb dX11_stepOn_124 rfl (lv_at hl 0 rfl) ?_
      refine va_get (D := (dC, dI)) (ci := 11) (v := .int (y123_0 2)) (C := RX11) (T := TX11) (N := 61) hx hb hts hin11 hown hK hP 0 rfl rfl 16 (Nat.le_of_ble_eq_true rfl) hw_0 (fun _ h9 => h9) rfl dX11_stepOn_125 ?_
      obtain ⟨hPc, hDc, hFc, hJn⟩ := cl_a (wc := [(m0, .inr (11, oX11 ra y123_0)), (ra 13, .inl (kI, 700, .inl q_tape))]) (wr := []) hP hD hS hA [0, 1] [] rfl rfl (by decide +kernel)
      refine va_calli (va_runV (As := [.int (y123_0 2)]) (rest := []) ⟨hx, hb, hml, hown, hts⟩ (s11_byteAt l dC dI kB kI kJ kZ kC kS H.size m0 ra y123_0 q_tape (y123_0 2) (hI123_0) (hq_tape) ((hI123_0 2 : iv 0 700 (y123_0 2)))) (cwV 1 hts gX11_stepOn_X11_byteAt rfl rfl rfl (by decide +kernel) ⟨Nat.le_of_ble_eq_true rfl, Nat.le_of_ble_eq_true rfl⟩) ⟨fun a U g mk q => by obtain ⟨q0, q1, qP, qE, qD⟩ := q; exact ⟨q0, q1, qP, kE_call qE, qD⟩, va_recv hK hP (ci := 11) (q0 := 0) rfl rfl, fun U hU hW => ⟨rfl, by rw [hU], by rw [hU]; exact hPc, kE_warm hW hE, hDc.weaken (fun _ _ _ _ => trivial)⟩⟩ rfl rfl hl.1 rfl (lv_room (Nat.le_of_ble_eq_true rfl)) dX11_stepOn_128 ⟨Nat.le_of_ble_eq_true rfl, Nat.le_of_ble_eq_true rfl⟩) hS (fun q _ h => hFc q h) hFc (fun r1 u t H locs ht hvm w2 hB hz1 hk1 hS => ?_)
      obtain ⟨hq3, hP1, hD1⟩ := hB
      try dsimp only at w2
      obtain ⟨hPa, hDa⟩ := hJn (w1 := [(m0, .inr (11, oX11 ra y123_0)), (ra 13, .inl (kI, 700, .inl q_tape))]) hk1 ht hP1 hD1
      clear hP hD hPc hDc hFc hJn hP1 hD1 hk1
      have hP : va_P (dC, dI) vwCl [(m0, .inr (11, oX11 ra y123_0)), (ra 13, .inl (kI, 700, .inl q_tape))] H := hPa
      have hD : va_D A [(m0, .inr (11, oX11 ra y123_0)), (ra 13, .inl (kI, 700, .inl q_tape))] := hDa
      clear hPa hDa
      refine W.widen (k := 0) (n := 0) (Nat.le_of_ble_eq_true rfl) (Nat.le_of_ble_eq_true rfl) ?_
      obtain ⟨w2, b4⟩ := w2
      subst w2
      obtain ⟨hPc, hDc, hFc, hJn⟩ := cl_a (wc := []) (wr := [(m0, .inr (11, oX11 ra y123_0)), (ra 13, .inl (kI, 700, .inl q_tape))]) hP hD hS hA [] [0, 1] rfl rfl (by decide +kernel)
      refine va_calli (va_runS (As := [.int (byA q_tape (y123_0 3) (y123_0 2))]) (rest := []) ⟨hx, hb, hml, hown, hts⟩ (s11_isDigit l dC dI kB kI kJ kZ kC kS H.size (byA q_tape (y123_0 3) (y123_0 2))) (va_cwS 1 hts gX11_stepOn_X11_isDigit rfl rfl rfl (by decide +kernel) ⟨Nat.le_of_ble_eq_true rfl, Nat.le_of_ble_eq_true rfl⟩) ⟨fun a U g mk q => by obtain ⟨q0, q1, qP, qE, qD⟩ := q; exact ⟨q0, q1, qP, kE_call qE, qD⟩, fun U hU hW => ⟨rfl, by rw [hU], by rw [hU]; exact hPc, kE_warm hW hE, hDc.weaken (fun _ _ _ _ => trivial)⟩⟩ rfl rfl hl.1 rfl (lv_room (Nat.le_of_ble_eq_true rfl)) dX11_stepOn_131 ⟨Nat.le_of_ble_eq_true rfl, Nat.le_of_ble_eq_true rfl⟩) hS (fun q _ h => hFc q h) hFc (fun r5 u t H locs ht hvm w6 hB hz1 hk1 hS => ?_)
      obtain ⟨hP1, hD1⟩ := hB
      try dsimp only at w6
      obtain ⟨hPa, hDa⟩ := hJn (w1 := []) hk1 ht hP1 hD1
      clear hP hD hPc hDc hFc hJn hP1 hD1 hk1
      have hP : va_P (dC, dI) vwCl [(m0, .inr (11, oX11 ra y123_0)), (ra 13, .inl (kI, 700, .inl q_tape))] H := hPa
      have hD : va_D A [(m0, .inr (11, oX11 ra y123_0)), (ra 13, .inl (kI, 700, .inl q_tape))] := hDa
      clear hPa hDa
      refine W.widen (k := 0) (n := 0) (Nat.le_of_ble_eq_true rfl) (Nat.le_of_ble_eq_true rfl) ?_
      obtain ⟨w6, b7⟩ := w6
      subst w6
      refine lv_if_eq (tgt := 178) hx hb dX11_stepOn_134 rfl (fun c8 => ?_) (fun c8 => ?_)
      · have b9 : iv 0 0 (isDg (byA q_tape (y123_0 3) (y123_0 2))) := iv_eqL c8 ivk_0
        have hst10 : (x0 2).toInt + 1 ≤ (y123_0 2).toInt := hsx_123.resolve_right (fun w => w (by have q := c8; rw [hts_123] at q; exact q))
        refine lv_aload_n hx hb dX11_stepOn_178 rfl (lv_at hl 0 rfl) ?_
        refine lv_iconst (v := 2) hx hb dX11_stepOn_179 ic_2 ?_
        refine va_put (D := (dC, dI)) (ci := 11) (v := .int 2) (ty := .int) (C := RX11) (T := TX11) (N := 61) hx hb hts hin11 tyX11 tyX11_ok nmX11 hown hK hP hD hS 0 rfl rfl 18 (by decide) hw_1 (fun _ h9 => h9) rfl (by decide +kernel) rfl rfl (Nat.le_of_ble_eq_true rfl) dX11_stepOn_180 (fun H locs hPa hDa hS => ?_)
        clear hP hD
        have hP : va_P (dC, dI) vwCl [(m0, .inr (11, oX11 ra (upd y123_0 4 2))), (ra 13, .inl (kI, 700, .inl q_tape))] H := hPa
        have hD : va_D A [(m0, .inr (11, oX11 ra (upd y123_0 4 2))), (ra 13, .inl (kI, 700, .inl q_tape))] := hDa
        clear hPa hDa
        refine lv_goto (tgt := 211) hx hb dX11_stepOn_183 rfl ?_
        refine lv_aload_n hx hb dX11_stepOn_211 rfl (lv_at hl 0 rfl) ?_
        refine lv_aload_n hx hb dX11_stepOn_212 rfl (lv_at hl 0 rfl) ?_
        refine va_get (D := (dC, dI)) (ci := 11) (v := .int (y123_0 2)) (C := RX11) (T := TX11) (N := 61) hx hb hts hin11 hown hK hP 0 rfl rfl 16 (Nat.le_of_ble_eq_true rfl) hw_0 (fun _ h9 => h9) rfl dX11_stepOn_213 ?_
        refine va_put (D := (dC, dI)) (ci := 11) (v := .int (y123_0 2)) (ty := .int) (C := RX11) (T := TX11) (N := 61) hx hb hts hin11 tyX11 tyX11_ok nmX11 hown hK hP hD hS 0 rfl rfl 21 (by decide) hw_2 (fun _ h9 => h9) rfl (by decide +kernel) rfl rfl (Nat.le_of_ble_eq_true rfl) dX11_stepOn_216 (fun H locs hPa hDa hS => ?_)
        clear hP hD
        have hP : va_P (dC, dI) vwCl [(m0, .inr (11, oX11 ra (upd (upd y123_0 4 2) 7 (y123_0 2)))), (ra 13, .inl (kI, 700, .inl q_tape))] H := hPa
        have hD : va_D A [(m0, .inr (11, oX11 ra (upd (upd y123_0 4 2) 7 (y123_0 2)))), (ra 13, .inl (kI, 700, .inl q_tape))] := hDa
        clear hPa hDa
        have hP9 := hP
        have hD9 := hD
        exact W.vret hx hb hr (fun t ht hW => ⟨⟨(), rfl, trivial, upd (upd y123_0 4 2) 7 (y123_0 2), (fI_u (fI_u hI123_0 (k := 4) ((iv_w ivk_2 (by decide) (by decide)))) (k := 7) ((hI123_0 2 : iv 0 700 (y123_0 2)))), (show (x0 2).toInt ≤ (y123_0 2).toInt from by omega), (show y123_0 3 = x0 3 from hts_123), (show 2 = 0 ∨ (x0 2).toInt + 1 ≤ (y123_0 2).toInt from Or.inr (by omega)), (by subst hTQ; exact rs_d hRr hSt (hX 2 : iv 0 700 (x0 2)) hk_123 (iv_w h123_3 (by decide) (by decide)) (hI123_0 2 : iv 0 700 (y123_0 2)) c8), (show y123_0 1 = x0 1 from htp_123), (show y123_0 10 = x0 10 from hfp_123), (show y123_0 11 = x0 11 from hor_123), (show y123_0 14 = x0 14 from hirl_123), by rw [ht]; exact hP9, hD9⟩, hS.F ht⟩) hS.2.2 dX11_stepOn_219
      · have b11 : iv 1 1 (isDg (byA q_tape (y123_0 3) (y123_0 2))) := iv_neLo c8 b7 ivk_0 (by decide) (by decide)
        have b12 : iv 48 57 (byA q_tape (y123_0 3) (y123_0 2)) := isDg_iv (iv_ne b11 ivk_0 (by decide))
        have b13 : iv 0 699 (y123_0 2) := (hq3).resolve_left (iv_ne b12 ivk_m1 (by decide))
        refine lv_aload_n hx hb dX11_stepOn_137 rfl (lv_at hl 0 rfl) ?_
        refine lv_ldc hx hb hown hw_3 dX11_stepOn_138 ?_
        refine lv_bipush (v := 10) hx hb dX11_stepOn_140 bp_10 ?_
        refine lv_aload_n hx hb dX11_stepOn_142 rfl (lv_at hl 0 rfl) ?_
        refine va_get (D := (dC, dI)) (ci := 11) (v := .int (y123_0 5)) (C := RX11) (T := TX11) (N := 61) hx hb hts hin11 hown hK hP 0 rfl rfl 19 (Nat.le_of_ble_eq_true rfl) hw_4 (fun _ h9 => h9) rfl dX11_stepOn_143 ?_
        refine lv_imul hx hb dX11_stepOn_146 ?_
        refine lv_aload_n hx hb dX11_stepOn_147 rfl (lv_at hl 0 rfl) ?_
        refine lv_aload_n hx hb dX11_stepOn_148 rfl (lv_at hl 0 rfl) ?_
        refine va_get (D := (dC, dI)) (ci := 11) (v := .int (y123_0 2)) (C := RX11) (T := TX11) (N := 61) hx hb hts hin11 hown hK hP 0 rfl rfl 16 (Nat.le_of_ble_eq_true rfl) hw_0 (fun _ h9 => h9) rfl dX11_stepOn_149 ?_
        obtain ⟨hPc, hDc, hFc, hJn⟩ := cl_a (wc := [(m0, .inr (11, oX11 ra y123_0)), (ra 13, .inl (kI, 700, .inl q_tape))]) (wr := []) hP hD hS hA [0, 1] [] rfl rfl (by decide +kernel)
        refine va_calli (va_runV (As := [.int (y123_0 2)]) (rest := [.int (10 * (y123_0 5)), .int 100000, .ref m0]) ⟨hx, hb, hml, hown, hts⟩ (s11_byteAt l dC dI kB kI kJ kZ kC kS H.size m0 ra y123_0 q_tape (y123_0 2) (hI123_0) (hq_tape) ((iv_w b13 (by decide) (by decide)))) (cwV 1 hts gX11_stepOn_X11_byteAt rfl rfl rfl (by decide +kernel) ⟨Nat.le_of_ble_eq_true rfl, Nat.le_of_ble_eq_true rfl⟩) ⟨fun a U g mk q => by obtain ⟨q0, q1, qP, qE, qD⟩ := q; exact ⟨q0, q1, qP, kE_call qE, qD⟩, va_recv hK hP (ci := 11) (q0 := 0) rfl rfl, fun U hU hW => ⟨rfl, by rw [hU], by rw [hU]; exact hPc, kE_warm hW hE, hDc.weaken (fun _ _ _ _ => trivial)⟩⟩ rfl rfl hl.1 rfl (lv_room (Nat.le_of_ble_eq_true rfl)) dX11_stepOn_152 ⟨Nat.le_of_ble_eq_true rfl, Nat.le_of_ble_eq_true rfl⟩) hS (fun q _ h => hFc q h) hFc (fun r14 u t H locs ht hvm w15 hB hz1 hk1 hS => ?_)
        obtain ⟨hq16, hP1, hD1⟩ := hB
        try dsimp only at w15
        obtain ⟨hPa, hDa⟩ := hJn (w1 := [(m0, .inr (11, oX11 ra y123_0)), (ra 13, .inl (kI, 700, .inl q_tape))]) hk1 ht hP1 hD1
        clear hP hD hPc hDc hFc hJn hP1 hD1 hk1
        have hP : va_P (dC, dI) vwCl [(m0, .inr (11, oX11 ra y123_0)), (ra 13, .inl (kI, 700, .inl q_tape))] H := hPa
        have hD : va_D A [(m0, .inr (11, oX11 ra y123_0)), (ra 13, .inl (kI, 700, .inl q_tape))] := hDa
        clear hPa hDa
        refine W.widen (k := 0) (n := 0) (Nat.le_of_ble_eq_true rfl) (Nat.le_of_ble_eq_true rfl) ?_
        obtain ⟨w15, b17⟩ := w15
        subst w15
        refine lv_iadd hx hb dX11_stepOn_155 ?_
        refine lv_bipush (v := 48) hx hb dX11_stepOn_156 bp_48 ?_
        refine lv_isub hx hb dX11_stepOn_158 ?_
        refine va_mmin hx hb (by rw [hml]; exact hl.1.symm) hown hw_5 hw_6 hw_7 hw_8 (Nat.le_of_ble_eq_true rfl) (Nat.le_of_ble_eq_true rfl) (Nat.le_of_ble_eq_true rfl) (Nat.le_of_ble_eq_true rfl) dX11_stepOn_159 ?_
        refine lv_topi (fun z18 e19 => ?_)
        refine va_put (D := (dC, dI)) (ci := 11) (v := .int z18) (ty := .int) (C := RX11) (T := TX11) (N := 61) hx hb hts hin11 tyX11 tyX11_ok nmX11 hown hK hP hD hS 0 rfl rfl 19 (by decide) hw_4 (fun _ h9 => h9) rfl (by decide +kernel) rfl rfl (Nat.le_of_ble_eq_true rfl) dX11_stepOn_162 (fun H locs hPa hDa hS => ?_)
        clear hP hD
        have hP : va_P (dC, dI) vwCl [(m0, .inr (11, oX11 ra (upd y123_0 5 z18))), (ra 13, .inl (kI, 700, .inl q_tape))] H := hPa
        have hD : va_D A [(m0, .inr (11, oX11 ra (upd y123_0 5 z18))), (ra 13, .inl (kI, 700, .inl q_tape))] := hDa
        clear hPa hDa
        refine lv_aload_n hx hb dX11_stepOn_165 rfl (lv_at hl 0 rfl) ?_
        refine lv_dup hx hb dX11_stepOn_166 rfl ?_
        refine va_get (D := (dC, dI)) (ci := 11) (v := .int (y123_0 2)) (C := RX11) (T := TX11) (N := 61) hx hb hts hin11 hown hK hP 0 rfl rfl 16 (Nat.le_of_ble_eq_true rfl) hw_0 (fun _ h9 => h9) rfl dX11_stepOn_167 ?_
        refine lv_iconst (v := 1) hx hb dX11_stepOn_170 ic_1 ?_
        refine lv_iadd hx hb dX11_stepOn_171 ?_
        have b20 : iv 1 700 ((y123_0 2) + 1) := iv_add b13 ivk_1 (by decide) (by decide) (by decide) (by decide)
        have t21 : ((y123_0 2) + 1).toInt = (y123_0 2).toInt + 1 := iv_addc b13 (by decide) (by decide) (by decide)
        refine va_put (D := (dC, dI)) (ci := 11) (v := .int ((y123_0 2) + 1)) (ty := .int) (C := RX11) (T := TX11) (N := 61) hx hb hts hin11 tyX11 tyX11_ok nmX11 hown hK hP hD hS 0 rfl rfl 16 (by decide) hw_0 (fun _ h9 => h9) rfl (by decide +kernel) rfl rfl (Nat.le_of_ble_eq_true rfl) dX11_stepOn_172 (fun H locs hPa hDa hS => ?_)
        clear hP hD
        have hP : va_P (dC, dI) vwCl [(m0, .inr (11, oX11 ra (upd (upd y123_0 5 z18) 2 ((y123_0 2) + 1)))), (ra 13, .inl (kI, 700, .inl q_tape))] H := hPa
        have hD : va_D A [(m0, .inr (11, oX11 ra (upd (upd y123_0 5 z18) 2 ((y123_0 2) + 1)))), (ra 13, .inl (kI, 700, .inl q_tape))] := hDa
        clear hPa hDa
        refine lv_goto (tgt := 123) hx hb dX11_stepOn_175 rfl ?_
        exact ih123 (upd (upd y123_0 5 z18) 2 ((y123_0 2) + 1)) v123_loc1 _ _ _ (ms_up (c := 1) (d := 0) b13 hm123 (by decide) (iv_addc b13 (by decide) (by decide) (by decide)) (by decide) rfl) ((fI_u (fI_u hI123_0 (k := 5) ((iv_t z18))) (k := 2) ((iv_w b20 (by decide) (by decide))))) (h123_2) (h123_3) ((show (x0 2).toInt + 1 ≤ ((y123_0 2) + 1).toInt ∨ ¬ isDg (byA q_tape (x0 3) ((y123_0 2) + 1)) = 0 from Or.inl (by have q := hat_123; omega))) ((by subst hTQ; exact rs_123s hRr hk_123 (iv_w h123_3 (by decide) (by decide)) (iv_w b13 (by decide) (by decide)) c8 e19)) ((show (x0 2).toInt ≤ ((y123_0 2) + 1).toInt from by omega)) ((show y123_0 3 = x0 3 from hts_123)) ((show y123_0 1 = x0 1 from htp_123)) ((show y123_0 10 = x0 10 from hfp_123)) ((show y123_0 11 = x0 11 from hor_123)) ((show y123_0 14 = x0 14 from hirl_123)) (hP) (hD) hS (lv_sub hl [0, 1] rfl)
  have hJ76 : ∀ (n : Nat) (y76_0 : Nat → Int32) (v76_loc1 : Int32) (H : Heap) (locs : List Loc) (ls : Array Slot), (700 - (y76_0 2).toInt).toNat < n → fI lX11 hX11 y76_0 → iv 97 122 v76_loc1 → iv 0 699 (y76_0 6) → ((x0 2).toInt + 1 ≤ (y76_0 2).toInt ∨ ¬ isLt (byA q_tape (x0 3) (y76_0 2)) = 0) → (R76 tT nN x0 y76_0) → ((x0 2).toInt ≤ (y76_0 2).toInt) → (y76_0 3 = x0 3) → (y76_0 1 = x0 1) → (y76_0 10 = x0 10) → (y76_0 11 = x0 11) → (y76_0 14 = x0 14) → va_P (dC, dI) vwCl [(m0, .inr (11, oX11 ra y76_0)), (ra 13, .inl (kI, 700, .inl q_tape))] H → va_D A [(m0, .inr (11, oX11 ra y76_0)), (ra 13, .inl (kI, 700, .inl q_tape))] → va_S A s.heap H locs → lv_has ls 2 [(0, .ref m0), (1, .int v76_loc1)] → W p l e (headSpec wsX11_stepOn rm_s11_stepOn).room s m args0 below meth c H locs (0) (0) (MQ below (va_Qv (fun (_ : Unit) => True) (fun _ t => ∃ (x0' : Nat → Int32), fI lX11 hX11 x0' ∧ ((x0 2).toInt ≤ (x0' 2).toInt) ∧ (x0' 3 = x0 3) ∧ (x0' 4 = 0 ∨ (x0 2).toInt + 1 ≤ (x0' 2).toInt) ∧ (RRd tT nN x0' (uS)) ∧ (x0' 1 = x0 1) ∧ (x0' 10 = x0 10) ∧ (x0' 11 = x0 11) ∧ (x0' 14 = x0 14) ∧ va_P (dC, dI) vwCl [(m0, .inr (11, oX11 ra x0')), (ra 13, .inl (kI, 700, .inl q_tape))] t.heap ∧ va_D A [(m0, .inr (11, oX11 ra x0')), (ra 13, .inl (kI, 700, .inl q_tape))]) A) args0 s 0 0 A) (F0 m 76 ls []) := by
    intro n
    induction n with
    | zero => intro y76_0 v76_loc1 H locs ls hm76; exact absurd hm76 (Nat.not_lt_zero _)
    | succ n ih76 =>
      intro y76_0 v76_loc1 H locs ls hm76 hI76_0 h76_2 h76_3 hsx_76 hk_76 hat_76 hts_76 htp_76 hfp_76 hor_76 hirl_76 hP hD hS hl
      refine lv_aload_n hx hb dX11_stepOn_76 rfl (lv_at hl 0 rfl) ?_
      refine lv_aload_n hx hb dX11_stepOn_77 rfl (lv_at hl 0 rfl) ?_
      refine va_get (D := (dC, dI)) (ci := 11) (v := .int (y76_0 2)) (C := RX11) (T := TX11) (N := 61) hx hb hts hin11 hown hK hP 0 rfl rfl 16 (Nat.le_of_ble_eq_true rfl) hw_0 (fun _ h9 => h9) rfl dX11_stepOn_78 ?_
      obtain ⟨hPc, hDc, hFc, hJn⟩ := cl_a (wc := [(m0, .inr (11, oX11 ra y76_0)), (ra 13, .inl (kI, 700, .inl q_tape))]) (wr := []) hP hD hS hA [0, 1] [] rfl rfl (by decide +kernel)
      refine va_calli (va_runV (As := [.int (y76_0 2)]) (rest := []) ⟨hx, hb, hml, hown, hts⟩ (s11_byteAt l dC dI kB kI kJ kZ kC kS H.size m0 ra y76_0 q_tape (y76_0 2) (hI76_0) (hq_tape) ((hI76_0 2 : iv 0 700 (y76_0 2)))) (cwV 1 hts gX11_stepOn_X11_byteAt rfl rfl rfl (by decide +kernel) ⟨Nat.le_of_ble_eq_true rfl, Nat.le_of_ble_eq_true rfl⟩) ⟨fun a U g mk q => by obtain ⟨q0, q1, qP, qE, qD⟩ := q; exact ⟨q0, q1, qP, kE_call qE, qD⟩, va_recv hK hP (ci := 11) (q0 := 0) rfl rfl, fun U hU hW => ⟨rfl, by rw [hU], by rw [hU]; exact hPc, kE_warm hW hE, hDc.weaken (fun _ _ _ _ => trivial)⟩⟩ rfl rfl hl.1 rfl (lv_room (Nat.le_of_ble_eq_true rfl)) dX11_stepOn_81 ⟨Nat.le_of_ble_eq_true rfl, Nat.le_of_ble_eq_true rfl⟩) hS (fun q _ h => hFc q h) hFc (fun r22 u t H locs ht hvm w23 hB hz1 hk1 hS => ?_)
      obtain ⟨hq24, hP1, hD1⟩ := hB
      try dsimp only at w23
      obtain ⟨hPa, hDa⟩ := hJn (w1 := [(m0, .inr (11, oX11 ra y76_0)), (ra 13, .inl (kI, 700, .inl q_tape))]) hk1 ht hP1 hD1
      clear hP hD hPc hDc hFc hJn hP1 hD1 hk1
      have hP : va_P (dC, dI) vwCl [(m0, .inr (11, oX11 ra y76_0)), (ra 13, .inl (kI, 700, .inl q_tape))] H := hPa
      have hD : va_D A [(m0, .inr (11, oX11 ra y76_0)), (ra 13, .inl (kI, 700, .inl q_tape))] := hDa
      clear hPa hDa
      refine W.widen (k := 0) (n := 0) (Nat.le_of_ble_eq_true rfl) (Nat.le_of_ble_eq_true rfl) ?_
      obtain ⟨w23, b25⟩ := w23
      subst w23
      obtain ⟨hPc, hDc, hFc, hJn⟩ := cl_a (wc := []) (wr := [(m0, .inr (11, oX11 ra y76_0)), (ra 13, .inl (kI, 700, .inl q_tape))]) hP hD hS hA [] [0, 1] rfl rfl (by decide +kernel)
      refine va_calli (va_runS (As := [.int (byA q_tape (y76_0 3) (y76_0 2))]) (rest := []) ⟨hx, hb, hml, hown, hts⟩ (s11_isLetter l dC dI kB kI kJ kZ kC kS H.size (byA q_tape (y76_0 3) (y76_0 2))) (va_cwS 1 hts gX11_stepOn_X11_isLetter rfl rfl rfl (by decide +kernel) ⟨Nat.le_of_ble_eq_true rfl, Nat.le_of_ble_eq_true rfl⟩) ⟨fun a U g mk q => by obtain ⟨q0, q1, qP, qE, qD⟩ := q; exact ⟨q0, q1, qP, kE_call qE, qD⟩, fun U hU hW => ⟨rfl, by rw [hU], by rw [hU]; exact hPc, kE_warm hW hE, hDc.weaken (fun _ _ _ _ => trivial)⟩⟩ rfl rfl hl.1 rfl (lv_room (Nat.le_of_ble_eq_true rfl)) dX11_stepOn_84 ⟨Nat.le_of_ble_eq_true rfl, Nat.le_of_ble_eq_true rfl⟩) hS (fun q _ h => hFc q h) hFc (fun r26 u t H locs ht hvm w27 hB hz1 hk1 hS => ?_)
      obtain ⟨hP1, hD1⟩ := hB
      try dsimp only at w27
      obtain ⟨hPa, hDa⟩ := hJn (w1 := []) hk1 ht hP1 hD1
      clear hP hD hPc hDc hFc hJn hP1 hD1 hk1
      have hP : va_P (dC, dI) vwCl [(m0, .inr (11, oX11 ra y76_0)), (ra 13, .inl (kI, 700, .inl q_tape))] H := hPa
      have hD : va_D A [(m0, .inr (11, oX11 ra y76_0)), (ra 13, .inl (kI, 700, .inl q_tape))] := hDa
      clear hPa hDa
      refine W.widen (k := 0) (n := 0) (Nat.le_of_ble_eq_true rfl) (Nat.le_of_ble_eq_true rfl) ?_
      obtain ⟨w27, b28⟩ := w27
      subst w27
      refine lv_if_eq (tgt := 103) hx hb dX11_stepOn_87 rfl (fun c29 => ?_) (fun c29 => ?_)
      · have b30 : iv 0 0 (isLt (byA q_tape (y76_0 3) (y76_0 2))) := iv_eqL c29 ivk_0
        have hst31 : (x0 2).toInt + 1 ≤ (y76_0 2).toInt := hsx_76.resolve_right (fun w => w (by have q := c29; rw [hts_76] at q; exact q))
        refine lv_aload_n hx hb dX11_stepOn_103 rfl (lv_at hl 0 rfl) ?_
        refine lv_iconst (v := 1) hx hb dX11_stepOn_104 ic_1 ?_
        refine va_put (D := (dC, dI)) (ci := 11) (v := .int 1) (ty := .int) (C := RX11) (T := TX11) (N := 61) hx hb hts hin11 tyX11 tyX11_ok nmX11 hown hK hP hD hS 0 rfl rfl 18 (by decide) hw_1 (fun _ h9 => h9) rfl (by decide +kernel) rfl rfl (Nat.le_of_ble_eq_true rfl) dX11_stepOn_105 (fun H locs hPa hDa hS => ?_)
        clear hP hD
        have hP : va_P (dC, dI) vwCl [(m0, .inr (11, oX11 ra (upd y76_0 4 1))), (ra 13, .inl (kI, 700, .inl q_tape))] H := hPa
        have hD : va_D A [(m0, .inr (11, oX11 ra (upd y76_0 4 1))), (ra 13, .inl (kI, 700, .inl q_tape))] := hDa
        clear hPa hDa
        refine lv_goto (tgt := 211) hx hb dX11_stepOn_108 rfl ?_
        refine lv_aload_n hx hb dX11_stepOn_211 rfl (lv_at hl 0 rfl) ?_
        refine lv_aload_n hx hb dX11_stepOn_212 rfl (lv_at hl 0 rfl) ?_
        refine va_get (D := (dC, dI)) (ci := 11) (v := .int (y76_0 2)) (C := RX11) (T := TX11) (N := 61) hx hb hts hin11 hown hK hP 0 rfl rfl 16 (Nat.le_of_ble_eq_true rfl) hw_0 (fun _ h9 => h9) rfl dX11_stepOn_213 ?_
        refine va_put (D := (dC, dI)) (ci := 11) (v := .int (y76_0 2)) (ty := .int) (C := RX11) (T := TX11) (N := 61) hx hb hts hin11 tyX11 tyX11_ok nmX11 hown hK hP hD hS 0 rfl rfl 21 (by decide) hw_2 (fun _ h9 => h9) rfl (by decide +kernel) rfl rfl (Nat.le_of_ble_eq_true rfl) dX11_stepOn_216 (fun H locs hPa hDa hS => ?_)
        clear hP hD
        have hP : va_P (dC, dI) vwCl [(m0, .inr (11, oX11 ra (upd (upd y76_0 4 1) 7 (y76_0 2)))), (ra 13, .inl (kI, 700, .inl q_tape))] H := hPa
        have hD : va_D A [(m0, .inr (11, oX11 ra (upd (upd y76_0 4 1) 7 (y76_0 2)))), (ra 13, .inl (kI, 700, .inl q_tape))] := hDa
        clear hPa hDa
        have hP9 := hP
        have hD9 := hD
        exact W.vret hx hb hr (fun t ht hW => ⟨⟨(), rfl, trivial, upd (upd y76_0 4 1) 7 (y76_0 2), (fI_u (fI_u hI76_0 (k := 4) ((iv_w ivk_1 (by decide) (by decide)))) (k := 7) ((hI76_0 2 : iv 0 700 (y76_0 2)))), (show (x0 2).toInt ≤ (y76_0 2).toInt from by omega), (show y76_0 3 = x0 3 from hts_76), (show 1 = 0 ∨ (x0 2).toInt + 1 ≤ (y76_0 2).toInt from Or.inr (by omega)), (by subst hTQ; exact rs_w hRr hSt (hX 2 : iv 0 700 (x0 2)) hk_76 (iv_w h76_3 (by decide) (by decide)) (hI76_0 2 : iv 0 700 (y76_0 2)) c29), (show y76_0 1 = x0 1 from htp_76), (show y76_0 10 = x0 10 from hfp_76), (show y76_0 11 = x0 11 from hor_76), (show y76_0 14 = x0 14 from hirl_76), by rw [ht]; exact hP9, hD9⟩, hS.F ht⟩) hS.2.2 dX11_stepOn_219
      · have b32 : iv 1 1 (isLt (byA q_tape (y76_0 3) (y76_0 2))) := iv_neLo c29 b28 ivk_0 (by decide) (by decide)
        have b33 : iv 97 122 (byA q_tape (y76_0 3) (y76_0 2)) := isLt_iv (iv_ne b32 ivk_0 (by decide))
        have b34 : iv 0 699 (y76_0 2) := (hq24).resolve_left (iv_ne b33 ivk_m1 (by decide))
        refine lv_aload_n hx hb dX11_stepOn_90 rfl (lv_at hl 0 rfl) ?_
        refine lv_dup hx hb dX11_stepOn_91 rfl ?_
        refine va_get (D := (dC, dI)) (ci := 11) (v := .int (y76_0 2)) (C := RX11) (T := TX11) (N := 61) hx hb hts hin11 hown hK hP 0 rfl rfl 16 (Nat.le_of_ble_eq_true rfl) hw_0 (fun _ h9 => h9) rfl dX11_stepOn_92 ?_
        refine lv_iconst (v := 1) hx hb dX11_stepOn_95 ic_1 ?_
        refine lv_iadd hx hb dX11_stepOn_96 ?_
        have b35 : iv 1 700 ((y76_0 2) + 1) := iv_add b34 ivk_1 (by decide) (by decide) (by decide) (by decide)
        have t36 : ((y76_0 2) + 1).toInt = (y76_0 2).toInt + 1 := iv_addc b34 (by decide) (by decide) (by decide)
        refine va_put (D := (dC, dI)) (ci := 11) (v := .int ((y76_0 2) + 1)) (ty := .int) (C := RX11) (T := TX11) (N := 61) hx hb hts hin11 tyX11 tyX11_ok nmX11 hown hK hP hD hS 0 rfl rfl 16 (by decide) hw_0 (fun _ h9 => h9) rfl (by decide +kernel) rfl rfl (Nat.le_of_ble_eq_true rfl) dX11_stepOn_97 (fun H locs hPa hDa hS => ?_)
        clear hP hD
        have hP : va_P (dC, dI) vwCl [(m0, .inr (11, oX11 ra (upd y76_0 2 ((y76_0 2) + 1)))), (ra 13, .inl (kI, 700, .inl q_tape))] H := hPa
        have hD : va_D A [(m0, .inr (11, oX11 ra (upd y76_0 2 ((y76_0 2) + 1)))), (ra 13, .inl (kI, 700, .inl q_tape))] := hDa
        clear hPa hDa
        refine lv_goto (tgt := 76) hx hb dX11_stepOn_100 rfl ?_
        exact ih76 (upd y76_0 2 ((y76_0 2) + 1)) v76_loc1 _ _ _ (ms_up (c := 1) (d := 0) b34 hm76 (by decide) (iv_addc b34 (by decide) (by decide) (by decide)) (by decide) rfl) ((fI_u hI76_0 (k := 2) ((iv_w b35 (by decide) (by decide))))) (h76_2) (h76_3) ((show (x0 2).toInt + 1 ≤ ((y76_0 2) + 1).toInt ∨ ¬ isLt (byA q_tape (x0 3) ((y76_0 2) + 1)) = 0 from Or.inl (by have q := hat_76; omega))) ((by subst hTQ; exact rs_76s hRr hk_76 (iv_w b34 (by decide) (by decide)) c29)) ((show (x0 2).toInt ≤ ((y76_0 2) + 1).toInt from by omega)) ((show y76_0 3 = x0 3 from hts_76)) ((show y76_0 1 = x0 1 from htp_76)) ((show y76_0 10 = x0 10 from hfp_76)) ((show y76_0 11 = x0 11 from hor_76)) ((show y76_0 14 = x0 14 from hirl_76)) (hP) (hD) hS (lv_sub hl [0, 1] rfl)
  have hJ0 : ∀ (n : Nat) (y0_0 : Nat → Int32) (H : Heap) (locs : List Loc) (ls : Array Slot), (700 - (y0_0 2).toInt).toNat < n → fI lX11 hX11 y0_0 → (R0 tT nN x0 y0_0) → ((x0 2).toInt ≤ (y0_0 2).toInt) → (y0_0 3 = x0 3) → (y0_0 1 = x0 1) → (y0_0 10 = x0 10) → (y0_0 11 = x0 11) → (y0_0 14 = x0 14) → va_P (dC, dI) vwCl [(m0, .inr (11, oX11 ra y0_0)), (ra 13, .inl (kI, 700, .inl q_tape))] H → va_D A [(m0, .inr (11, oX11 ra y0_0)), (ra 13, .inl (kI, 700, .inl q_tape))] → va_S A s.heap H locs → lv_has ls 2 [(0, .ref m0)] → W p l e (headSpec wsX11_stepOn rm_s11_stepOn).room s m args0 below meth c H locs (0) (0) (MQ below (va_Qv (fun (_ : Unit) => True) (fun _ t => ∃ (x0' : Nat → Int32), fI lX11 hX11 x0' ∧ ((x0 2).toInt ≤ (x0' 2).toInt) ∧ (x0' 3 = x0 3) ∧ (x0' 4 = 0 ∨ (x0 2).toInt + 1 ≤ (x0' 2).toInt) ∧ (RRd tT nN x0' (uS)) ∧ (x0' 1 = x0 1) ∧ (x0' 10 = x0 10) ∧ (x0' 11 = x0 11) ∧ (x0' 14 = x0 14) ∧ va_P (dC, dI) vwCl [(m0, .inr (11, oX11 ra x0')), (ra 13, .inl (kI, 700, .inl q_tape))] t.heap ∧ va_D A [(m0, .inr (11, oX11 ra x0')), (ra 13, .inl (kI, 700, .inl q_tape))]) A) args0 s 0 0 A) (F0 m 0 ls []) := by
    intro n
    induction n with
    | zero => intro y0_0 H locs ls hm0; exact absurd hm0 (Nat.not_lt_zero _)
    | succ n ih0 =>
      intro y0_0 H locs ls hm0 hI0_0 hk_0 hat_0 hts_0 htp_0 hfp_0 hor_0 hirl_0 hP hD hS hl
      refine lv_aload_n hx hb dX11_stepOn_0 rfl (lv_at hl 0 rfl) ?_
      refine lv_aload_n hx hb dX11_stepOn_1 rfl (lv_at hl 0 rfl) ?_
      refine va_get (D := (dC, dI)) (ci := 11) (v := .int (y0_0 2)) (C := RX11) (T := TX11) (N := 61) hx hb hts hin11 hown hK hP 0 rfl rfl 16 (Nat.le_of_ble_eq_true rfl) hw_0 (fun _ h9 => h9) rfl dX11_stepOn_2 ?_
      obtain ⟨hPc, hDc, hFc, hJn⟩ := cl_a (wc := [(m0, .inr (11, oX11 ra y0_0)), (ra 13, .inl (kI, 700, .inl q_tape))]) (wr := []) hP hD hS hA [0, 1] [] rfl rfl (by decide +kernel)
      refine va_calli (va_runV (As := [.int (y0_0 2)]) (rest := []) ⟨hx, hb, hml, hown, hts⟩ (s11_byteAt l dC dI kB kI kJ kZ kC kS H.size m0 ra y0_0 q_tape (y0_0 2) (hI0_0) (hq_tape) ((hI0_0 2 : iv 0 700 (y0_0 2)))) (cwV 1 hts gX11_stepOn_X11_byteAt rfl rfl rfl (by decide +kernel) ⟨Nat.le_of_ble_eq_true rfl, Nat.le_of_ble_eq_true rfl⟩) ⟨fun a U g mk q => by obtain ⟨q0, q1, qP, qE, qD⟩ := q; exact ⟨q0, q1, qP, kE_call qE, qD⟩, va_recv hK hP (ci := 11) (q0 := 0) rfl rfl, fun U hU hW => ⟨rfl, by rw [hU], by rw [hU]; exact hPc, kE_warm hW hE, hDc.weaken (fun _ _ _ _ => trivial)⟩⟩ rfl rfl hl.1 rfl (lv_room (Nat.le_of_ble_eq_true rfl)) dX11_stepOn_5 ⟨Nat.le_of_ble_eq_true rfl, Nat.le_of_ble_eq_true rfl⟩) hS (fun q _ h => hFc q h) hFc (fun r37 u t H locs ht hvm w38 hB hz1 hk1 hS => ?_)
      obtain ⟨hq39, hP1, hD1⟩ := hB
      try dsimp only at w38
      obtain ⟨hPa, hDa⟩ := hJn (w1 := [(m0, .inr (11, oX11 ra y0_0)), (ra 13, .inl (kI, 700, .inl q_tape))]) hk1 ht hP1 hD1
      clear hP hD hPc hDc hFc hJn hP1 hD1 hk1
      have hP : va_P (dC, dI) vwCl [(m0, .inr (11, oX11 ra y0_0)), (ra 13, .inl (kI, 700, .inl q_tape))] H := hPa
      have hD : va_D A [(m0, .inr (11, oX11 ra y0_0)), (ra 13, .inl (kI, 700, .inl q_tape))] := hDa
      clear hPa hDa
      refine W.widen (k := 0) (n := 0) (Nat.le_of_ble_eq_true rfl) (Nat.le_of_ble_eq_true rfl) ?_
      obtain ⟨w38, b40⟩ := w38
      subst w38
      refine lv_bipush (v := 32) hx hb dX11_stepOn_8 bp_32 ?_
      refine lv_icmp_eq (tgt := 26) hx hb dX11_stepOn_10 rfl (fun c41 => ?_) (fun c41 => ?_)
      · have b42 : iv 32 32 (byA q_tape (y0_0 3) (y0_0 2)) := iv_eqL c41 ivk_32
        have b43 : iv 0 699 (y0_0 2) := (hq39).resolve_left (iv_ne b42 ivk_m1 (by decide))
        refine lv_aload_n hx hb dX11_stepOn_26 rfl (lv_at hl 0 rfl) ?_
        refine lv_dup hx hb dX11_stepOn_27 rfl ?_
        refine va_get (D := (dC, dI)) (ci := 11) (v := .int (y0_0 2)) (C := RX11) (T := TX11) (N := 61) hx hb hts hin11 hown hK hP 0 rfl rfl 16 (Nat.le_of_ble_eq_true rfl) hw_0 (fun _ h9 => h9) rfl dX11_stepOn_28 ?_
        refine lv_iconst (v := 1) hx hb dX11_stepOn_31 ic_1 ?_
        refine lv_iadd hx hb dX11_stepOn_32 ?_
        have b44 : iv 1 700 ((y0_0 2) + 1) := iv_add b43 ivk_1 (by decide) (by decide) (by decide) (by decide)
        have t45 : ((y0_0 2) + 1).toInt = (y0_0 2).toInt + 1 := iv_addc b43 (by decide) (by decide) (by decide)
        refine va_put (D := (dC, dI)) (ci := 11) (v := .int ((y0_0 2) + 1)) (ty := .int) (C := RX11) (T := TX11) (N := 61) hx hb hts hin11 tyX11 tyX11_ok nmX11 hown hK hP hD hS 0 rfl rfl 16 (by decide) hw_0 (fun _ h9 => h9) rfl (by decide +kernel) rfl rfl (Nat.le_of_ble_eq_true rfl) dX11_stepOn_33 (fun H locs hPa hDa hS => ?_)
        clear hP hD
        have hP : va_P (dC, dI) vwCl [(m0, .inr (11, oX11 ra (upd y0_0 2 ((y0_0 2) + 1)))), (ra 13, .inl (kI, 700, .inl q_tape))] H := hPa
        have hD : va_D A [(m0, .inr (11, oX11 ra (upd y0_0 2 ((y0_0 2) + 1)))), (ra 13, .inl (kI, 700, .inl q_tape))] := hDa
        clear hPa hDa
        refine lv_goto (tgt := 0) hx hb dX11_stepOn_36 rfl ?_
        exact ih0 (upd y0_0 2 ((y0_0 2) + 1)) _ _ _ (ms_up (c := 1) (d := 0) b43 hm0 (by decide) (iv_addc b43 (by decide) (by decide) (by decide)) (by decide) rfl) ((fI_u hI0_0 (k := 2) ((iv_w b44 (by decide) (by decide))))) ((by subst hTQ; exact rs_bl hRr hk_0 (iv_w b43 (by decide) (by decide)) (Or.inl c41))) ((show (x0 2).toInt ≤ ((y0_0 2) + 1).toInt from by omega)) ((show y0_0 3 = x0 3 from hts_0)) ((show y0_0 1 = x0 1 from htp_0)) ((show y0_0 10 = x0 10 from hfp_0)) ((show y0_0 11 = x0 11 from hor_0)) ((show y0_0 14 = x0 14 from hirl_0)) (hP) (hD) hS (lv_sub hl [0] rfl)
      · refine lv_aload_n hx hb dX11_stepOn_13 rfl (lv_at hl 0 rfl) ?_
        refine lv_aload_n hx hb dX11_stepOn_14 rfl (lv_at hl 0 rfl) ?_
        refine va_get (D := (dC, dI)) (ci := 11) (v := .int (y0_0 2)) (C := RX11) (T := TX11) (N := 61) hx hb hts hin11 hown hK hP 0 rfl rfl 16 (Nat.le_of_ble_eq_true rfl) hw_0 (fun _ h9 => h9) rfl dX11_stepOn_15 ?_
        obtain ⟨hPc, hDc, hFc, hJn⟩ := cl_a (wc := [(m0, .inr (11, oX11 ra y0_0)), (ra 13, .inl (kI, 700, .inl q_tape))]) (wr := []) hP hD hS hA [0, 1] [] rfl rfl (by decide +kernel)
        refine va_calli (va_runV (As := [.int (y0_0 2)]) (rest := []) ⟨hx, hb, hml, hown, hts⟩ (s11_byteAt l dC dI kB kI kJ kZ kC kS H.size m0 ra y0_0 q_tape (y0_0 2) (hI0_0) (hq_tape) ((hI0_0 2 : iv 0 700 (y0_0 2)))) (cwV 1 hts gX11_stepOn_X11_byteAt rfl rfl rfl (by decide +kernel) ⟨Nat.le_of_ble_eq_true rfl, Nat.le_of_ble_eq_true rfl⟩) ⟨fun a U g mk q => by obtain ⟨q0, q1, qP, qE, qD⟩ := q; exact ⟨q0, q1, qP, kE_call qE, qD⟩, va_recv hK hP (ci := 11) (q0 := 0) rfl rfl, fun U hU hW => ⟨rfl, by rw [hU], by rw [hU]; exact hPc, kE_warm hW hE, hDc.weaken (fun _ _ _ _ => trivial)⟩⟩ rfl rfl hl.1 rfl (lv_room (Nat.le_of_ble_eq_true rfl)) dX11_stepOn_18 ⟨Nat.le_of_ble_eq_true rfl, Nat.le_of_ble_eq_true rfl⟩) hS (fun q _ h => hFc q h) hFc (fun r46 u t H locs ht hvm w47 hB hz1 hk1 hS => ?_)
        obtain ⟨hq48, hP1, hD1⟩ := hB
        try dsimp only at w47
        obtain ⟨hPa, hDa⟩ := hJn (w1 := [(m0, .inr (11, oX11 ra y0_0)), (ra 13, .inl (kI, 700, .inl q_tape))]) hk1 ht hP1 hD1
        clear hP hD hPc hDc hFc hJn hP1 hD1 hk1
        have hP : va_P (dC, dI) vwCl [(m0, .inr (11, oX11 ra y0_0)), (ra 13, .inl (kI, 700, .inl q_tape))] H := hPa
        have hD : va_D A [(m0, .inr (11, oX11 ra y0_0)), (ra 13, .inl (kI, 700, .inl q_tape))] := hDa
        clear hPa hDa
        refine W.widen (k := 0) (n := 0) (Nat.le_of_ble_eq_true rfl) (Nat.le_of_ble_eq_true rfl) ?_
        obtain ⟨w47, b49⟩ := w47
        subst w47
        refine lv_bipush (v := 10) hx hb dX11_stepOn_21 bp_10 ?_
        refine lv_icmp_ne (tgt := 39) hx hb dX11_stepOn_23 rfl (fun c50 => ?_) (fun c50 => ?_)
        · refine lv_aload_n hx hb dX11_stepOn_39 rfl (lv_at hl 0 rfl) ?_
          refine lv_aload_n hx hb dX11_stepOn_40 rfl (lv_at hl 0 rfl) ?_
          refine va_get (D := (dC, dI)) (ci := 11) (v := .int (y0_0 2)) (C := RX11) (T := TX11) (N := 61) hx hb hts hin11 hown hK hP 0 rfl rfl 16 (Nat.le_of_ble_eq_true rfl) hw_0 (fun _ h9 => h9) rfl dX11_stepOn_41 ?_
          refine va_put (D := (dC, dI)) (ci := 11) (v := .int (y0_0 2)) (ty := .int) (C := RX11) (T := TX11) (N := 61) hx hb hts hin11 tyX11 tyX11_ok nmX11 hown hK hP hD hS 0 rfl rfl 20 (by decide) hw_9 (fun _ h9 => h9) rfl (by decide +kernel) rfl rfl (Nat.le_of_ble_eq_true rfl) dX11_stepOn_44 (fun H locs hPa hDa hS => ?_)
          clear hP hD
          have hP : va_P (dC, dI) vwCl [(m0, .inr (11, oX11 ra (upd y0_0 6 (y0_0 2)))), (ra 13, .inl (kI, 700, .inl q_tape))] H := hPa
          have hD : va_D A [(m0, .inr (11, oX11 ra (upd y0_0 6 (y0_0 2)))), (ra 13, .inl (kI, 700, .inl q_tape))] := hDa
          clear hPa hDa
          refine lv_aload_n hx hb dX11_stepOn_47 rfl (lv_at hl 0 rfl) ?_
          refine lv_aload_n hx hb dX11_stepOn_48 rfl (lv_at hl 0 rfl) ?_
          refine va_get (D := (dC, dI)) (ci := 11) (v := .int (y0_0 2)) (C := RX11) (T := TX11) (N := 61) hx hb hts hin11 hown hK hP 0 rfl rfl 16 (Nat.le_of_ble_eq_true rfl) hw_0 (fun _ h9 => h9) rfl dX11_stepOn_49 ?_
          obtain ⟨hPc, hDc, hFc, hJn⟩ := cl_a (wc := [(m0, .inr (11, oX11 ra (upd y0_0 6 (y0_0 2)))), (ra 13, .inl (kI, 700, .inl q_tape))]) (wr := []) hP hD hS hA [0, 1] [] rfl rfl (by decide +kernel)
          refine va_calli (va_runV (As := [.int (y0_0 2)]) (rest := []) ⟨hx, hb, hml, hown, hts⟩ (s11_byteAt l dC dI kB kI kJ kZ kC kS H.size m0 ra (upd y0_0 6 (y0_0 2)) q_tape (y0_0 2) ((fI_u hI0_0 (k := 6) ((hI0_0 2 : iv 0 700 (y0_0 2))))) (hq_tape) ((hI0_0 2 : iv 0 700 (y0_0 2)))) (cwV 1 hts gX11_stepOn_X11_byteAt rfl rfl rfl (by decide +kernel) ⟨Nat.le_of_ble_eq_true rfl, Nat.le_of_ble_eq_true rfl⟩) ⟨fun a U g mk q => by obtain ⟨q0, q1, qP, qE, qD⟩ := q; exact ⟨q0, q1, qP, kE_call qE, qD⟩, va_recv hK hP (ci := 11) (q0 := 0) rfl rfl, fun U hU hW => ⟨rfl, by rw [hU], by rw [hU]; exact hPc, kE_warm hW hE, hDc.weaken (fun _ _ _ _ => trivial)⟩⟩ rfl rfl hl.1 rfl (lv_room (Nat.le_of_ble_eq_true rfl)) dX11_stepOn_52 ⟨Nat.le_of_ble_eq_true rfl, Nat.le_of_ble_eq_true rfl⟩) hS (fun q _ h => hFc q h) hFc (fun r51 u t H locs ht hvm w52 hB hz1 hk1 hS => ?_)
          obtain ⟨hq53, hP1, hD1⟩ := hB
          try dsimp only at w52
          obtain ⟨hPa, hDa⟩ := hJn (w1 := [(m0, .inr (11, oX11 ra (upd y0_0 6 (y0_0 2)))), (ra 13, .inl (kI, 700, .inl q_tape))]) hk1 ht hP1 hD1
          clear hP hD hPc hDc hFc hJn hP1 hD1 hk1
          have hP : va_P (dC, dI) vwCl [(m0, .inr (11, oX11 ra (upd y0_0 6 (y0_0 2)))), (ra 13, .inl (kI, 700, .inl q_tape))] H := hPa
          have hD : va_D A [(m0, .inr (11, oX11 ra (upd y0_0 6 (y0_0 2)))), (ra 13, .inl (kI, 700, .inl q_tape))] := hDa
          clear hPa hDa
          refine W.widen (k := 0) (n := 0) (Nat.le_of_ble_eq_true rfl) (Nat.le_of_ble_eq_true rfl) ?_
          obtain ⟨w52, b54⟩ := w52
          subst w52
          refine lv_istore_n (lv' := [(1, .int (byA q_tape (y0_0 3) (y0_0 2))), (0, .ref m0)]) hx hb dX11_stepOn_55 rfl hl (Nat.le_of_ble_eq_true rfl) rfl (fun ls hl => ?_)
          refine lv_iload_n hx hb dX11_stepOn_56 rfl (lv_at hl 0 rfl) ?_
          refine lv_iconst (v := (-1)) hx hb dX11_stepOn_57 ic_m1 ?_
          refine lv_icmp_ne (tgt := 69) hx hb dX11_stepOn_58 rfl (fun c55 => ?_) (fun c55 => ?_)
          · have b56 : iv 0 255 (byA q_tape (y0_0 3) (y0_0 2)) := iv_neLo c55 b40 ivk_m1 (by decide) (by decide)
            have b57 : iv 0 699 (y0_0 2) := (hq39).resolve_left (iv_ne b56 ivk_m1 (by decide))
            refine lv_iload_n hx hb dX11_stepOn_69 rfl (lv_at hl 0 rfl) ?_
            obtain ⟨hPc, hDc, hFc, hJn⟩ := cl_a (wc := []) (wr := [(m0, .inr (11, oX11 ra (upd y0_0 6 (y0_0 2)))), (ra 13, .inl (kI, 700, .inl q_tape))]) hP hD hS hA [] [0, 1] rfl rfl (by decide +kernel)
            refine va_calli (va_runS (As := [.int (byA q_tape (y0_0 3) (y0_0 2))]) (rest := []) ⟨hx, hb, hml, hown, hts⟩ (s11_isLetter l dC dI kB kI kJ kZ kC kS H.size (byA q_tape (y0_0 3) (y0_0 2))) (va_cwS 1 hts gX11_stepOn_X11_isLetter rfl rfl rfl (by decide +kernel) ⟨Nat.le_of_ble_eq_true rfl, Nat.le_of_ble_eq_true rfl⟩) ⟨fun a U g mk q => by obtain ⟨q0, q1, qP, qE, qD⟩ := q; exact ⟨q0, q1, qP, kE_call qE, qD⟩, fun U hU hW => ⟨rfl, by rw [hU], by rw [hU]; exact hPc, kE_warm hW hE, hDc.weaken (fun _ _ _ _ => trivial)⟩⟩ rfl rfl hl.1 rfl (lv_room (Nat.le_of_ble_eq_true rfl)) dX11_stepOn_70 ⟨Nat.le_of_ble_eq_true rfl, Nat.le_of_ble_eq_true rfl⟩) hS (fun q _ h => hFc q h) hFc (fun r58 u t H locs ht hvm w59 hB hz1 hk1 hS => ?_)
            obtain ⟨hP1, hD1⟩ := hB
            try dsimp only at w59
            obtain ⟨hPa, hDa⟩ := hJn (w1 := []) hk1 ht hP1 hD1
            clear hP hD hPc hDc hFc hJn hP1 hD1 hk1
            have hP : va_P (dC, dI) vwCl [(m0, .inr (11, oX11 ra (upd y0_0 6 (y0_0 2)))), (ra 13, .inl (kI, 700, .inl q_tape))] H := hPa
            have hD : va_D A [(m0, .inr (11, oX11 ra (upd y0_0 6 (y0_0 2)))), (ra 13, .inl (kI, 700, .inl q_tape))] := hDa
            clear hPa hDa
            refine W.widen (k := 0) (n := 0) (Nat.le_of_ble_eq_true rfl) (Nat.le_of_ble_eq_true rfl) ?_
            obtain ⟨w59, b60⟩ := w59
            subst w59
            refine lv_if_eq (tgt := 111) hx hb dX11_stepOn_73 rfl (fun c61 => ?_) (fun c61 => ?_)
            · have b62 : iv 0 0 (isLt (byA q_tape (y0_0 3) (y0_0 2))) := iv_eqL c61 ivk_0
              refine lv_iload_n hx hb dX11_stepOn_111 rfl (lv_at hl 0 rfl) ?_
              obtain ⟨hPc, hDc, hFc, hJn⟩ := cl_a (wc := []) (wr := [(m0, .inr (11, oX11 ra (upd y0_0 6 (y0_0 2)))), (ra 13, .inl (kI, 700, .inl q_tape))]) hP hD hS hA [] [0, 1] rfl rfl (by decide +kernel)
              refine va_calli (va_runS (As := [.int (byA q_tape (y0_0 3) (y0_0 2))]) (rest := []) ⟨hx, hb, hml, hown, hts⟩ (s11_isDigit l dC dI kB kI kJ kZ kC kS H.size (byA q_tape (y0_0 3) (y0_0 2))) (va_cwS 1 hts gX11_stepOn_X11_isDigit rfl rfl rfl (by decide +kernel) ⟨Nat.le_of_ble_eq_true rfl, Nat.le_of_ble_eq_true rfl⟩) ⟨fun a U g mk q => by obtain ⟨q0, q1, qP, qE, qD⟩ := q; exact ⟨q0, q1, qP, kE_call qE, qD⟩, fun U hU hW => ⟨rfl, by rw [hU], by rw [hU]; exact hPc, kE_warm hW hE, hDc.weaken (fun _ _ _ _ => trivial)⟩⟩ rfl rfl hl.1 rfl (lv_room (Nat.le_of_ble_eq_true rfl)) dX11_stepOn_112 ⟨Nat.le_of_ble_eq_true rfl, Nat.le_of_ble_eq_true rfl⟩) hS (fun q _ h => hFc q h) hFc (fun r63 u t H locs ht hvm w64 hB hz1 hk1 hS => ?_)
              obtain ⟨hP1, hD1⟩ := hB
              try dsimp only at w64
              obtain ⟨hPa, hDa⟩ := hJn (w1 := []) hk1 ht hP1 hD1
              clear hP hD hPc hDc hFc hJn hP1 hD1 hk1
              have hP : va_P (dC, dI) vwCl [(m0, .inr (11, oX11 ra (upd y0_0 6 (y0_0 2)))), (ra 13, .inl (kI, 700, .inl q_tape))] H := hPa
              have hD : va_D A [(m0, .inr (11, oX11 ra (upd y0_0 6 (y0_0 2)))), (ra 13, .inl (kI, 700, .inl q_tape))] := hDa
              clear hPa hDa
              refine W.widen (k := 0) (n := 0) (Nat.le_of_ble_eq_true rfl) (Nat.le_of_ble_eq_true rfl) ?_
              obtain ⟨w64, b65⟩ := w64
              subst w64
              refine lv_if_eq (tgt := 186) hx hb dX11_stepOn_115 rfl (fun c66 => ?_) (fun c66 => ?_)
              · have b67 : iv 0 0 (isDg (byA q_tape (y0_0 3) (y0_0 2))) := iv_eqL c66 ivk_0
                refine lv_aload_n hx hb dX11_stepOn_186 rfl (lv_at hl 1 rfl) ?_
                refine lv_dup hx hb dX11_stepOn_187 rfl ?_
                refine va_get (D := (dC, dI)) (ci := 11) (v := .int (y0_0 2)) (C := RX11) (T := TX11) (N := 61) hx hb hts hin11 hown hK hP 0 rfl rfl 16 (Nat.le_of_ble_eq_true rfl) hw_0 (fun _ h9 => h9) rfl dX11_stepOn_188 ?_
                refine lv_iconst (v := 1) hx hb dX11_stepOn_191 ic_1 ?_
                refine lv_iadd hx hb dX11_stepOn_192 ?_
                have b68 : iv 1 700 ((y0_0 2) + 1) := iv_add b57 ivk_1 (by decide) (by decide) (by decide) (by decide)
                have t69 : ((y0_0 2) + 1).toInt = (y0_0 2).toInt + 1 := iv_addc b57 (by decide) (by decide) (by decide)
                refine va_put (D := (dC, dI)) (ci := 11) (v := .int ((y0_0 2) + 1)) (ty := .int) (C := RX11) (T := TX11) (N := 61) hx hb hts hin11 tyX11 tyX11_ok nmX11 hown hK hP hD hS 0 rfl rfl 16 (by decide) hw_0 (fun _ h9 => h9) rfl (by decide +kernel) rfl rfl (Nat.le_of_ble_eq_true rfl) dX11_stepOn_193 (fun H locs hPa hDa hS => ?_)
                clear hP hD
                have hP : va_P (dC, dI) vwCl [(m0, .inr (11, oX11 ra (upd (upd y0_0 6 (y0_0 2)) 2 ((y0_0 2) + 1)))), (ra 13, .inl (kI, 700, .inl q_tape))] H := hPa
                have hD : va_D A [(m0, .inr (11, oX11 ra (upd (upd y0_0 6 (y0_0 2)) 2 ((y0_0 2) + 1)))), (ra 13, .inl (kI, 700, .inl q_tape))] := hDa
                clear hPa hDa
                refine lv_aload_n hx hb dX11_stepOn_196 rfl (lv_at hl 1 rfl) ?_
                refine lv_iload_n hx hb dX11_stepOn_197 rfl (lv_at hl 0 rfl) ?_
                refine lv_bipush (v := 59) hx hb dX11_stepOn_198 bp_59 ?_
                refine lv_icmp_ne (tgt := 207) hx hb dX11_stepOn_200 rfl (fun c70 => ?_) (fun c70 => ?_)
                · refine lv_iconst (v := 4) hx hb dX11_stepOn_207 ic_4 ?_
                  refine va_put (D := (dC, dI)) (ci := 11) (v := .int 4) (ty := .int) (C := RX11) (T := TX11) (N := 61) hx hb hts hin11 tyX11 tyX11_ok nmX11 hown hK hP hD hS 0 rfl rfl 18 (by decide) hw_1 (fun _ h9 => h9) rfl (by decide +kernel) rfl rfl (Nat.le_of_ble_eq_true rfl) dX11_stepOn_208 (fun H locs hPa hDa hS => ?_)
                  clear hP hD
                  have hP : va_P (dC, dI) vwCl [(m0, .inr (11, oX11 ra (upd (upd (upd y0_0 6 (y0_0 2)) 2 ((y0_0 2) + 1)) 4 4))), (ra 13, .inl (kI, 700, .inl q_tape))] H := hPa
                  have hD : va_D A [(m0, .inr (11, oX11 ra (upd (upd (upd y0_0 6 (y0_0 2)) 2 ((y0_0 2) + 1)) 4 4))), (ra 13, .inl (kI, 700, .inl q_tape))] := hDa
                  clear hPa hDa
                  refine lv_aload_n hx hb dX11_stepOn_211 rfl (lv_at hl 1 rfl) ?_
                  refine lv_aload_n hx hb dX11_stepOn_212 rfl (lv_at hl 1 rfl) ?_
                  refine va_get (D := (dC, dI)) (ci := 11) (v := .int ((y0_0 2) + 1)) (C := RX11) (T := TX11) (N := 61) hx hb hts hin11 hown hK hP 0 rfl rfl 16 (Nat.le_of_ble_eq_true rfl) hw_0 (fun _ h9 => h9) rfl dX11_stepOn_213 ?_
                  refine va_put (D := (dC, dI)) (ci := 11) (v := .int ((y0_0 2) + 1)) (ty := .int) (C := RX11) (T := TX11) (N := 61) hx hb hts hin11 tyX11 tyX11_ok nmX11 hown hK hP hD hS 0 rfl rfl 21 (by decide) hw_2 (fun _ h9 => h9) rfl (by decide +kernel) rfl rfl (Nat.le_of_ble_eq_true rfl) dX11_stepOn_216 (fun H locs hPa hDa hS => ?_)
                  clear hP hD
                  have hP : va_P (dC, dI) vwCl [(m0, .inr (11, oX11 ra (upd (upd (upd (upd y0_0 6 (y0_0 2)) 2 ((y0_0 2) + 1)) 4 4) 7 ((y0_0 2) + 1)))), (ra 13, .inl (kI, 700, .inl q_tape))] H := hPa
                  have hD : va_D A [(m0, .inr (11, oX11 ra (upd (upd (upd (upd y0_0 6 (y0_0 2)) 2 ((y0_0 2) + 1)) 4 4) 7 ((y0_0 2) + 1)))), (ra 13, .inl (kI, 700, .inl q_tape))] := hDa
                  clear hPa hDa
                  have hP9 := hP
                  have hD9 := hD
                  exact W.vret hx hb hr (fun t ht hW => ⟨⟨(), rfl, trivial, upd (upd (upd (upd y0_0 6 (y0_0 2)) 2 ((y0_0 2) + 1)) 4 4) 7 ((y0_0 2) + 1), (fI_u (fI_u (fI_u (fI_u hI0_0 (k := 6) ((iv_w b57 (by decide) (by decide)))) (k := 2) ((iv_w b68 (by decide) (by decide)))) (k := 4) ((iv_w ivk_4 (by decide) (by decide)))) (k := 7) ((iv_w b68 (by decide) (by decide)))), (show (x0 2).toInt ≤ ((y0_0 2) + 1).toInt from by omega), (show y0_0 3 = x0 3 from hts_0), (show 4 = 0 ∨ (x0 2).toInt + 1 ≤ ((y0_0 2) + 1).toInt from Or.inr (by omega)), (by subst hTQ; exact rs_sg hRr hSt (hX 2 : iv 0 700 (x0 2)) (rs_39 hRr hk_0 (iv_w b57 (by decide) (by decide)) c41 c50) c55 c61 c66 (Or.inr ⟨c70, rfl⟩)), (show y0_0 1 = x0 1 from htp_0), (show y0_0 10 = x0 10 from hfp_0), (show y0_0 11 = x0 11 from hor_0), (show y0_0 14 = x0 14 from hirl_0), by rw [ht]; exact hP9, hD9⟩, hS.F ht⟩) hS.2.2 dX11_stepOn_219
                · have b71 : iv 59 59 (byA q_tape (y0_0 3) (y0_0 2)) := iv_eqL c70 ivk_59
                  refine lv_iconst (v := 3) hx hb dX11_stepOn_203 ic_3 ?_
                  refine lv_goto (tgt := 208) hx hb dX11_stepOn_204 rfl ?_
                  refine va_put (D := (dC, dI)) (ci := 11) (v := .int 3) (ty := .int) (C := RX11) (T := TX11) (N := 61) hx hb hts hin11 tyX11 tyX11_ok nmX11 hown hK hP hD hS 0 rfl rfl 18 (by decide) hw_1 (fun _ h9 => h9) rfl (by decide +kernel) rfl rfl (Nat.le_of_ble_eq_true rfl) dX11_stepOn_208 (fun H locs hPa hDa hS => ?_)
                  clear hP hD
                  have hP : va_P (dC, dI) vwCl [(m0, .inr (11, oX11 ra (upd (upd (upd y0_0 6 (y0_0 2)) 2 ((y0_0 2) + 1)) 4 3))), (ra 13, .inl (kI, 700, .inl q_tape))] H := hPa
                  have hD : va_D A [(m0, .inr (11, oX11 ra (upd (upd (upd y0_0 6 (y0_0 2)) 2 ((y0_0 2) + 1)) 4 3))), (ra 13, .inl (kI, 700, .inl q_tape))] := hDa
                  clear hPa hDa
                  refine lv_aload_n hx hb dX11_stepOn_211 rfl (lv_at hl 1 rfl) ?_
                  refine lv_aload_n hx hb dX11_stepOn_212 rfl (lv_at hl 1 rfl) ?_
                  refine va_get (D := (dC, dI)) (ci := 11) (v := .int ((y0_0 2) + 1)) (C := RX11) (T := TX11) (N := 61) hx hb hts hin11 hown hK hP 0 rfl rfl 16 (Nat.le_of_ble_eq_true rfl) hw_0 (fun _ h9 => h9) rfl dX11_stepOn_213 ?_
                  refine va_put (D := (dC, dI)) (ci := 11) (v := .int ((y0_0 2) + 1)) (ty := .int) (C := RX11) (T := TX11) (N := 61) hx hb hts hin11 tyX11 tyX11_ok nmX11 hown hK hP hD hS 0 rfl rfl 21 (by decide) hw_2 (fun _ h9 => h9) rfl (by decide +kernel) rfl rfl (Nat.le_of_ble_eq_true rfl) dX11_stepOn_216 (fun H locs hPa hDa hS => ?_)
                  clear hP hD
                  have hP : va_P (dC, dI) vwCl [(m0, .inr (11, oX11 ra (upd (upd (upd (upd y0_0 6 (y0_0 2)) 2 ((y0_0 2) + 1)) 4 3) 7 ((y0_0 2) + 1)))), (ra 13, .inl (kI, 700, .inl q_tape))] H := hPa
                  have hD : va_D A [(m0, .inr (11, oX11 ra (upd (upd (upd (upd y0_0 6 (y0_0 2)) 2 ((y0_0 2) + 1)) 4 3) 7 ((y0_0 2) + 1)))), (ra 13, .inl (kI, 700, .inl q_tape))] := hDa
                  clear hPa hDa
                  have hP9 := hP
                  have hD9 := hD
                  exact W.vret hx hb hr (fun t ht hW => ⟨⟨(), rfl, trivial, upd (upd (upd (upd y0_0 6 (y0_0 2)) 2 ((y0_0 2) + 1)) 4 3) 7 ((y0_0 2) + 1), (fI_u (fI_u (fI_u (fI_u hI0_0 (k := 6) ((iv_w b57 (by decide) (by decide)))) (k := 2) ((iv_w b68 (by decide) (by decide)))) (k := 4) ((iv_w ivk_3 (by decide) (by decide)))) (k := 7) ((iv_w b68 (by decide) (by decide)))), (show (x0 2).toInt ≤ ((y0_0 2) + 1).toInt from by omega), (show y0_0 3 = x0 3 from hts_0), (show 3 = 0 ∨ (x0 2).toInt + 1 ≤ ((y0_0 2) + 1).toInt from Or.inr (by omega)), (by subst hTQ; exact rs_sg hRr hSt (hX 2 : iv 0 700 (x0 2)) (rs_39 hRr hk_0 (iv_w b57 (by decide) (by decide)) c41 c50) c55 c61 c66 (Or.inl ⟨c70, rfl⟩)), (show y0_0 1 = x0 1 from htp_0), (show y0_0 10 = x0 10 from hfp_0), (show y0_0 11 = x0 11 from hor_0), (show y0_0 14 = x0 14 from hirl_0), by rw [ht]; exact hP9, hD9⟩, hS.F ht⟩) hS.2.2 dX11_stepOn_219
              · have b72 : iv 1 1 (isDg (byA q_tape (y0_0 3) (y0_0 2))) := iv_neLo c66 b65 ivk_0 (by decide) (by decide)
                have b73 : iv 48 57 (byA q_tape (y0_0 3) (y0_0 2)) := isDg_iv (iv_ne b72 ivk_0 (by decide))
                refine lv_aload_n hx hb dX11_stepOn_118 rfl (lv_at hl 1 rfl) ?_
                refine lv_iconst (v := 0) hx hb dX11_stepOn_119 ic_0 ?_
                refine va_put (D := (dC, dI)) (ci := 11) (v := .int 0) (ty := .int) (C := RX11) (T := TX11) (N := 61) hx hb hts hin11 tyX11 tyX11_ok nmX11 hown hK hP hD hS 0 rfl rfl 19 (by decide) hw_4 (fun _ h9 => h9) rfl (by decide +kernel) rfl rfl (Nat.le_of_ble_eq_true rfl) dX11_stepOn_120 (fun H locs hPa hDa hS => ?_)
                clear hP hD
                have hP : va_P (dC, dI) vwCl [(m0, .inr (11, oX11 ra (upd (upd y0_0 6 (y0_0 2)) 5 0))), (ra 13, .inl (kI, 700, .inl q_tape))] H := hPa
                have hD : va_D A [(m0, .inr (11, oX11 ra (upd (upd y0_0 6 (y0_0 2)) 5 0))), (ra 13, .inl (kI, 700, .inl q_tape))] := hDa
                clear hPa hDa
                exact hJ123 _ (upd (upd y0_0 6 (y0_0 2)) 5 0) (byA q_tape (y0_0 3) (y0_0 2)) _ _ _ (Nat.lt_succ_self _) ((fI_u (fI_u hI0_0 (k := 6) ((iv_w b57 (by decide) (by decide)))) (k := 5) ((iv_w ivk_0 (by decide) (by decide))))) (b73) (b57) ((show (x0 2).toInt + 1 ≤ (y0_0 2).toInt ∨ ¬ isDg (byA q_tape (x0 3) (y0_0 2)) = 0 from Or.inr (by have q := c66; rw [hts_0] at q; exact q))) ((by subst hTQ; exact rs_123 hRr (rs_39 hRr hk_0 (iv_w b57 (by decide) (by decide)) c41 c50) (iv_w b57 (by decide) (by decide)) c55 c61 c66)) ((show (x0 2).toInt ≤ (y0_0 2).toInt from by omega)) ((show y0_0 3 = x0 3 from hts_0)) ((show y0_0 1 = x0 1 from htp_0)) ((show y0_0 10 = x0 10 from hfp_0)) ((show y0_0 11 = x0 11 from hor_0)) ((show y0_0 14 = x0 14 from hirl_0)) (hP) (hD) hS (lv_sub hl [1, 0] rfl)
            · have b74 : iv 1 1 (isLt (byA q_tape (y0_0 3) (y0_0 2))) := iv_neLo c61 b60 ivk_0 (by decide) (by decide)
              have b75 : iv 97 122 (byA q_tape (y0_0 3) (y0_0 2)) := isLt_iv (iv_ne b74 ivk_0 (by decide))
              exact hJ76 _ (upd y0_0 6 (y0_0 2)) (byA q_tape (y0_0 3) (y0_0 2)) _ _ _ (Nat.lt_succ_self _) ((fI_u hI0_0 (k := 6) ((iv_w b57 (by decide) (by decide))))) (b75) (b57) ((show (x0 2).toInt + 1 ≤ (y0_0 2).toInt ∨ ¬ isLt (byA q_tape (x0 3) (y0_0 2)) = 0 from Or.inr (by have q := c61; rw [hts_0] at q; exact q))) ((by subst hTQ; exact rs_76 hRr (rs_39 hRr hk_0 (iv_w b57 (by decide) (by decide)) c41 c50) c55 c61)) ((show (x0 2).toInt ≤ (y0_0 2).toInt from by omega)) ((show y0_0 3 = x0 3 from hts_0)) ((show y0_0 1 = x0 1 from htp_0)) ((show y0_0 10 = x0 10 from hfp_0)) ((show y0_0 11 = x0 11 from hor_0)) ((show y0_0 14 = x0 14 from hirl_0)) (hP) (hD) hS (lv_sub hl [1, 0] rfl)
          · have b76 : iv (-1) (-1) (byA q_tape (y0_0 3) (y0_0 2)) := iv_eqL c55 ivk_m1
            refine lv_aload_n hx hb dX11_stepOn_61 rfl (lv_at hl 1 rfl) ?_
            refine lv_iconst (v := 0) hx hb dX11_stepOn_62 ic_0 ?_
            refine va_put (D := (dC, dI)) (ci := 11) (v := .int 0) (ty := .int) (C := RX11) (T := TX11) (N := 61) hx hb hts hin11 tyX11 tyX11_ok nmX11 hown hK hP hD hS 0 rfl rfl 18 (by decide) hw_1 (fun _ h9 => h9) rfl (by decide +kernel) rfl rfl (Nat.le_of_ble_eq_true rfl) dX11_stepOn_63 (fun H locs hPa hDa hS => ?_)
            clear hP hD
            have hP : va_P (dC, dI) vwCl [(m0, .inr (11, oX11 ra (upd (upd y0_0 6 (y0_0 2)) 4 0))), (ra 13, .inl (kI, 700, .inl q_tape))] H := hPa
            have hD : va_D A [(m0, .inr (11, oX11 ra (upd (upd y0_0 6 (y0_0 2)) 4 0))), (ra 13, .inl (kI, 700, .inl q_tape))] := hDa
            clear hPa hDa
            refine lv_goto (tgt := 211) hx hb dX11_stepOn_66 rfl ?_
            refine lv_aload_n hx hb dX11_stepOn_211 rfl (lv_at hl 1 rfl) ?_
            refine lv_aload_n hx hb dX11_stepOn_212 rfl (lv_at hl 1 rfl) ?_
            refine va_get (D := (dC, dI)) (ci := 11) (v := .int (y0_0 2)) (C := RX11) (T := TX11) (N := 61) hx hb hts hin11 hown hK hP 0 rfl rfl 16 (Nat.le_of_ble_eq_true rfl) hw_0 (fun _ h9 => h9) rfl dX11_stepOn_213 ?_
            refine va_put (D := (dC, dI)) (ci := 11) (v := .int (y0_0 2)) (ty := .int) (C := RX11) (T := TX11) (N := 61) hx hb hts hin11 tyX11 tyX11_ok nmX11 hown hK hP hD hS 0 rfl rfl 21 (by decide) hw_2 (fun _ h9 => h9) rfl (by decide +kernel) rfl rfl (Nat.le_of_ble_eq_true rfl) dX11_stepOn_216 (fun H locs hPa hDa hS => ?_)
            clear hP hD
            have hP : va_P (dC, dI) vwCl [(m0, .inr (11, oX11 ra (upd (upd (upd y0_0 6 (y0_0 2)) 4 0) 7 (y0_0 2)))), (ra 13, .inl (kI, 700, .inl q_tape))] H := hPa
            have hD : va_D A [(m0, .inr (11, oX11 ra (upd (upd (upd y0_0 6 (y0_0 2)) 4 0) 7 (y0_0 2)))), (ra 13, .inl (kI, 700, .inl q_tape))] := hDa
            clear hPa hDa
            have hP9 := hP
            have hD9 := hD
            exact W.vret hx hb hr (fun t ht hW => ⟨⟨(), rfl, trivial, upd (upd (upd y0_0 6 (y0_0 2)) 4 0) 7 (y0_0 2), (fI_u (fI_u (fI_u hI0_0 (k := 6) ((hI0_0 2 : iv 0 700 (y0_0 2)))) (k := 4) ((iv_w ivk_0 (by decide) (by decide)))) (k := 7) ((hI0_0 2 : iv 0 700 (y0_0 2)))), (show (x0 2).toInt ≤ (y0_0 2).toInt from by omega), (show y0_0 3 = x0 3 from hts_0), (show 0 = 0 ∨ (x0 2).toInt + 1 ≤ (y0_0 2).toInt from Or.inl rfl), (by subst hTQ; exact rs_end hRr hSt hq_tape (hX 2 : iv 0 700 (x0 2)) (rs_39 hRr hk_0 (hI0_0 2 : iv 0 700 (y0_0 2)) c41 c50) c55), (show y0_0 1 = x0 1 from htp_0), (show y0_0 10 = x0 10 from hfp_0), (show y0_0 11 = x0 11 from hor_0), (show y0_0 14 = x0 14 from hirl_0), by rw [ht]; exact hP9, hD9⟩, hS.F ht⟩) hS.2.2 dX11_stepOn_219
        · have b77 : iv 10 10 (byA q_tape (y0_0 3) (y0_0 2)) := iv_eqL c50 ivk_10
          have b78 : iv 0 699 (y0_0 2) := (hq39).resolve_left (iv_ne b77 ivk_m1 (by decide))
          refine lv_aload_n hx hb dX11_stepOn_26 rfl (lv_at hl 0 rfl) ?_
          refine lv_dup hx hb dX11_stepOn_27 rfl ?_
          refine va_get (D := (dC, dI)) (ci := 11) (v := .int (y0_0 2)) (C := RX11) (T := TX11) (N := 61) hx hb hts hin11 hown hK hP 0 rfl rfl 16 (Nat.le_of_ble_eq_true rfl) hw_0 (fun _ h9 => h9) rfl dX11_stepOn_28 ?_
          refine lv_iconst (v := 1) hx hb dX11_stepOn_31 ic_1 ?_
          refine lv_iadd hx hb dX11_stepOn_32 ?_
          have b79 : iv 1 700 ((y0_0 2) + 1) := iv_add b78 ivk_1 (by decide) (by decide) (by decide) (by decide)
          have t80 : ((y0_0 2) + 1).toInt = (y0_0 2).toInt + 1 := iv_addc b78 (by decide) (by decide) (by decide)
          refine va_put (D := (dC, dI)) (ci := 11) (v := .int ((y0_0 2) + 1)) (ty := .int) (C := RX11) (T := TX11) (N := 61) hx hb hts hin11 tyX11 tyX11_ok nmX11 hown hK hP hD hS 0 rfl rfl 16 (by decide) hw_0 (fun _ h9 => h9) rfl (by decide +kernel) rfl rfl (Nat.le_of_ble_eq_true rfl) dX11_stepOn_33 (fun H locs hPa hDa hS => ?_)
          clear hP hD
          have hP : va_P (dC, dI) vwCl [(m0, .inr (11, oX11 ra (upd y0_0 2 ((y0_0 2) + 1)))), (ra 13, .inl (kI, 700, .inl q_tape))] H := hPa
          have hD : va_D A [(m0, .inr (11, oX11 ra (upd y0_0 2 ((y0_0 2) + 1)))), (ra 13, .inl (kI, 700, .inl q_tape))] := hDa
          clear hPa hDa
          refine lv_goto (tgt := 0) hx hb dX11_stepOn_36 rfl ?_
          exact ih0 (upd y0_0 2 ((y0_0 2) + 1)) _ _ _ (ms_up (c := 1) (d := 0) b78 hm0 (by decide) (iv_addc b78 (by decide) (by decide) (by decide)) (by decide) rfl) ((fI_u hI0_0 (k := 2) ((iv_w b79 (by decide) (by decide))))) ((by subst hTQ; exact rs_bl hRr hk_0 (iv_w b78 (by decide) (by decide)) (Or.inr c50))) ((show (x0 2).toInt ≤ ((y0_0 2) + 1).toInt from by omega)) ((show y0_0 3 = x0 3 from hts_0)) ((show y0_0 1 = x0 1 from htp_0)) ((show y0_0 10 = x0 10 from hfp_0)) ((show y0_0 11 = x0 11 from hor_0)) ((show y0_0 14 = x0 14 from hirl_0)) (hP) (hD) hS (lv_sub hl [0] rfl)
  exact hJ0 _ x0 _ _ _ (Nat.lt_succ_self _) (hX) ((show R0 tT nN x0 x0 from rs_0)) ((show (x0 2).toInt ≤ (x0 2).toInt from by omega)) ((show x0 3 = x0 3 from rfl)) ((show x0 1 = x0 1 from rfl)) ((show x0 10 = x0 10 from rfl)) ((show x0 11 = x0 11 from rfl)) ((show x0 14 = x0 14 from rfl)) (hP) (hD) hS (lv_sub hl [0] rfl)
def rm_s11_is : Room := { frames := 4, cells := 0, slots := 0, locals := 85 }
set_option maxHeartbeats 4000000 in
set_option maxRecDepth 100000 in
theorem s11_is (l : Launch) (dC : Nat → ClassId) (dI : Nat → Nat → Nat) (kB kI kJ kZ kC kS : ClassId) (sz : Nat) (adK : Nat → Nat) (adV : Nat → Nat) (m0 : Nat) (ra : Nat → Nat) (x0 : Nat → Int32) (q_tape : Nat → Int32) (i : Nat) (tT : Nat → Int32) (nN : Int32) (sS : StT) (hX : fI lX11 hX11 x0) (hq_tape : fI (fun _ => 0) (fun _ => 255) q_tape) (hi : i < 10) (hRr : RRd tT nN x0 sS) (hTQ : tT = q_tape) : Met l yX11_is wsX11_is rm_s11_is (va_Pc [.ref m0, .ref (adK i)] (fun U => U.heap.size = sz ∧ va_P (dC, dI) vwCl [(m0, .inr (11, oX11 ra x0)), (ra 13, .inl (kI, 700, .inl q_tape))] U.heap ∧ kE dC dI kB kI kJ kZ kC kS U ∧ va_D (fun _ => True) [(m0, .inr (11, oX11 ra x0)), (ra 13, .inl (kI, 700, .inl q_tape))] ∧ kL adK adV (va_A [(m0, .inr (11, oX11 ra x0)), (ra 13, .inl (kI, 700, .inl q_tape))] sz) U)) (va_Qi (fun (r : Int32) (_ : Unit) => r = wS tT i sS ∧ iv 0 1 r) (fun _ t => va_P (dC, dI) vwCl [(m0, .inr (11, oX11 ra x0)), (ra 13, .inl (kI, 700, .inl q_tape))] t.heap ∧ va_D (va_A [(m0, .inr (11, oX11 ra x0)), (ra 13, .inl (kI, 700, .inl q_tape))] sz) [(m0, .inr (11, oX11 ra x0)), (ra 13, .inl (kI, 700, .inl q_tape))]) (va_A [(m0, .inr (11, oX11 ra x0)), (ra 13, .inl (kI, 700, .inl q_tape))] sz)) 0 0 (va_A [(m0, .inr (11, oX11 ra x0)), (ra 13, .inl (kI, 700, .inl q_tape))] sz) := by
  refine Met.ofW (cc := cX11_is) (maxL := 4) (ret := (some .boolean)) (by decide) rfl ?_
  intro p e s m args0 below meth c s₁ B hml hv
  obtain ⟨hargs, hsz, hP, hE, hD0, hKL⟩ := hv
  have hx := B.exec
  have hb := B.bytes
  have hr := B.returns
  have hts := atoms_spec (ws := wsX11_is) B.pre
  have hown : s.vm.findClass RX11 = some m.cls := findClass_of_methodNamed B.named
  have hlocks := B.notSynchronized
  have hK := hE.1
  have hin11 : ∀ w ∈ wsX110, w ∈ wsX11_is := fun _ h9 => List.mem_cons_of_mem _ (List.mem_append_right _ h9)
  have hw_0 := hts (.fieldLink RX11 66 "PathProberModel" "tape" "[I") (List.mem_of_getElem? (i := 5) rfl)
  have hw_1 := hts (.fieldLink RX11 158 "PathProberModel" "begins" "I") (List.mem_of_getElem? (i := 4) rfl)
  have hw_2 := hts (.fieldLink RX11 184 "PathProberModel" "bad" "I") (List.mem_of_getElem? (i := 1) rfl)
  have hw_3 := hts (.fieldLink RX11 161 "PathProberModel" "token" "I") (List.mem_of_getElem? (i := 2) rfl)
  have hw_4 := hts (.fieldLink RX11 181 "PathProberModel" "stops" "I") (List.mem_of_getElem? (i := 3) rfl)
  subst hsz
  have hD := hD0.self (sz := s.heap.size)
  generalize hAe : va_A [(m0, .inr (11, oX11 ra x0)), (ra 13, .inl (kI, 700, .inl q_tape))] s.heap.size = A at hD hKL ⊢
  have hA : ∀ q : Nat, s.heap.size ≤ q → A q := fun q h => by rw [← hAe]; exact Or.inr h
  have hS : va_S A s.heap s.heap [] := va_S.rf
  have hP : va_P (dC, dI) vwCl [(m0, .inr (11, oX11 ra x0)), (ra 13, .inl (kI, 700, .inl q_tape))] s.heap := hP
  have hl := lv_entry ([.ref m0, .ref (adK i)]) (n := 4) (Nat.le_of_ble_eq_true rfl)
  have hla : entryFrame m args0 4 = entryFrame m ([.ref m0, .ref (adK i)] : List Value).toArray 4 := by rw [hargs]
  rw [hla, lg_entry_eq]
  generalize (lg_sl ([.ref m0, .ref (adK i)]) ++ List.replicate (4 - (lg_sl ([.ref m0, .ref (adK i)])).length) Slot.unset).toArray = ls at hl ⊢
  have hl : lv_has ls 4 [(0, .ref m0), (1, .ref (adK i))] := hl
  have hJ39 : ∀ (n : Nat) (v39_loc2 : Int32) (v39_loc3 : Int32) (H : Heap) (locs : List Loc) (ls : Array Slot), (699 - v39_loc3.toInt).toNat < n → iv 0 1 v39_loc2 → iv 0 699 v39_loc3 → (v39_loc2 = 0 ∨ nI (lenL.getD i 0) = x0 7 - x0 6) → (IsR tT i x0 sS v39_loc2 v39_loc3) → (x0 1 = x0 1) → (x0 10 = x0 10) → (x0 11 = x0 11) → (x0 14 = x0 14) → va_P (dC, dI) vwCl [(m0, .inr (11, oX11 ra x0)), (ra 13, .inl (kI, 700, .inl q_tape))] H → va_D A [(m0, .inr (11, oX11 ra x0)), (ra 13, .inl (kI, 700, .inl q_tape))] → va_S A s.heap H locs → lv_has ls 4 [(0, .ref m0), (1, .ref (adK i)), (2, .int v39_loc2), (3, .int v39_loc3)] → W p l e (headSpec wsX11_is rm_s11_is).room s m args0 below meth c H locs (0) (0) (MQ below (va_Qi (fun (r : Int32) (_ : Unit) => r = wS tT i sS ∧ iv 0 1 r) (fun _ t => va_P (dC, dI) vwCl [(m0, .inr (11, oX11 ra x0)), (ra 13, .inl (kI, 700, .inl q_tape))] t.heap ∧ va_D A [(m0, .inr (11, oX11 ra x0)), (ra 13, .inl (kI, 700, .inl q_tape))]) A) args0 s 0 0 A) (F0 m 39 ls []) := by
    intro n
    induction n with
    | zero => intro v39_loc2 v39_loc3 H locs ls hm39; exact absurd hm39 (Nat.not_lt_zero _)
    | succ n ih39 =>
      intro v39_loc2 v39_loc3 H locs ls hm39 h39_1 h39_2 hie_39 hir_39 htp_39 hfp_39 hor_39 hirl_39 hP hD hS hl
      refine lv_iload_n hx hb dX11_is_39 rfl (lv_at hl 2 rfl) ?_
      refine lv_if_eq (tgt := 82) hx hb dX11_is_40 rfl (fun c1 => ?_) (fun c1 => ?_)
      · have b2 : iv 0 0 v39_loc2 := iv_eqL c1 ivk_0
        refine lv_iload_n hx hb dX11_is_82 rfl (lv_at hl 2 rfl) ?_
        have hP9 := hP
        have hD9 := hD
        exact W.zret (v := v39_loc2) (ty := .boolean) hx hb hr (z_nar (iv_w b2 (by decide) (by decide))) (fun t ht hW => ⟨⟨v39_loc2, (), rfl, ⟨is_e0 hir_39 c1, (iv_w b2 (by decide) (by decide))⟩, by rw [ht]; exact hP9, hD9⟩, hS.F ht⟩) hS.2.2 dX11_is_83
      · have b3 : iv 1 1 v39_loc2 := iv_neLo c1 h39_1 ivk_0 (by decide) (by decide)
        have hr4 : nI (lenL.getD i 0) = x0 7 - x0 6 := hie_39.resolve_left (iv_ne b3 ivk_0 (by decide))
        refine lv_iload_n hx hb dX11_is_43 rfl (lv_at hl 3 rfl) ?_
        refine lv_aload_n hx hb dX11_is_44 rfl (lv_at hl 1 rfl) ?_
        obtain ⟨hPc, hDc, hFc, hJn⟩ := cl_a (wc := []) (wr := [(m0, .inr (11, oX11 ra x0)), (ra 13, .inl (kI, 700, .inl q_tape))]) hP hD hS hA [] [0, 1] rfl rfl (by decide +kernel)
        refine va_calli (va_runV (As := []) (rest := [.int v39_loc3]) ⟨hx, hb, hml, hown, hts⟩ (sJ_length l dC dI kB kI kJ kZ kC kS H.size adK adV i (hi)) (cwV 0 hts gX11_is_J0_length_8abf5 rfl rfl rfl (by decide +kernel) ⟨Nat.le_of_ble_eq_true rfl, Nat.le_of_ble_eq_true rfl⟩) ⟨fun a U g mk q => by obtain ⟨q0, q1, qP, qE, qD, qL⟩ := q; exact ⟨q0, q1, qP, kE_call qE, qD, kL_call qL⟩, kS_recv hKL.1 hi hS, fun U hU hW => ⟨rfl, by rw [hU], by rw [hU]; exact hPc, kE_warm hW hE, hDc.weaken (fun _ _ _ _ => trivial), kL_at hKL hS hFc hW hU⟩⟩ rfl rfl hl.1 rfl (lv_room (Nat.le_of_ble_eq_true rfl)) dX11_is_45 ⟨Nat.le_of_ble_eq_true rfl, Nat.le_of_ble_eq_true rfl⟩) hS (fun q _ h => hFc q h) hFc (fun r5 u t H locs ht hvm w6 hB hz1 hk1 hS => ?_)
        obtain ⟨hP1, hD1⟩ := hB
        try dsimp only at w6
        obtain ⟨hPa, hDa⟩ := hJn (w1 := []) hk1 ht hP1 hD1
        clear hP hD hPc hDc hFc hJn hP1 hD1 hk1
        have hP : va_P (dC, dI) vwCl [(m0, .inr (11, oX11 ra x0)), (ra 13, .inl (kI, 700, .inl q_tape))] H := hPa
        have hD : va_D A [(m0, .inr (11, oX11 ra x0)), (ra 13, .inl (kI, 700, .inl q_tape))] := hDa
        clear hPa hDa
        refine W.widen (k := 0) (n := 0) (Nat.le_of_ble_eq_true rfl) (Nat.le_of_ble_eq_true rfl) ?_
        obtain ⟨w6, b7⟩ := w6
        subst w6
        refine lv_icmp_ge (tgt := 82) hx hb dX11_is_48 rfl (fun c8 => ?_) (fun c8 => ?_)
        · refine lv_iload_n hx hb dX11_is_82 rfl (lv_at hl 2 rfl) ?_
          have hP9 := hP
          have hD9 := hD
          exact W.zret (v := v39_loc2) (ty := .boolean) hx hb hr (z_nar (iv_w b3 (by decide) (by decide))) (fun t ht hW => ⟨⟨v39_loc2, (), rfl, ⟨is_e1 hRr hir_39 c1 c8, (iv_w b3 (by decide) (by decide))⟩, by rw [ht]; exact hP9, hD9⟩, hS.F ht⟩) hS.2.2 dX11_is_83
        · have b9 : iv 0 698 v39_loc3 := iv_ltL (Int32.not_le.mp c8) h39_2 b7 (by decide) (by decide)
          have b10 : iv 1 699 (nI (lenL.getD i 0)) := iv_ltR (Int32.not_le.mp c8) h39_2 b7 (by decide) (by decide)
          refine lv_aload_n hx hb dX11_is_51 rfl (lv_at hl 1 rfl) ?_
          refine lv_iload_n hx hb dX11_is_52 rfl (lv_at hl 3 rfl) ?_
          obtain ⟨hPc, hDc, hFc, hJn⟩ := cl_a (wc := []) (wr := [(m0, .inr (11, oX11 ra x0)), (ra 13, .inl (kI, 700, .inl q_tape))]) hP hD hS hA [] [0, 1] rfl rfl (by decide +kernel)
          refine va_calli (va_runV (As := [.int v39_loc3]) (rest := []) ⟨hx, hb, hml, hown, hts⟩ (sJ_charAt l dC dI kB kI kJ kZ kC kS H.size adK adV i v39_loc3 (hi) ((iv_w b9 (by decide) (by decide))) ((Int32.not_le.mp c8))) (cwV 1 hts gX11_is_J0_charAt_5068e rfl rfl rfl (by decide +kernel) ⟨Nat.le_of_ble_eq_true rfl, Nat.le_of_ble_eq_true rfl⟩) ⟨fun a U g mk q => by obtain ⟨q0, q1, qP, qE, qD, qL⟩ := q; exact ⟨q0, q1, qP, kE_call qE, qD, kL_call qL⟩, kS_recv hKL.1 hi hS, fun U hU hW => ⟨rfl, by rw [hU], by rw [hU]; exact hPc, kE_warm hW hE, hDc.weaken (fun _ _ _ _ => trivial), kL_at hKL hS hFc hW hU⟩⟩ rfl rfl hl.1 rfl (lv_room (Nat.le_of_ble_eq_true rfl)) dX11_is_53 ⟨Nat.le_of_ble_eq_true rfl, Nat.le_of_ble_eq_true rfl⟩) hS (fun q _ h => hFc q h) hFc (fun r11 u t H locs ht hvm w12 hB hz1 hk1 hS => ?_)
          obtain ⟨hP1, hD1⟩ := hB
          try dsimp only at w12
          obtain ⟨hPa, hDa⟩ := hJn (w1 := []) hk1 ht hP1 hD1
          clear hP hD hPc hDc hFc hJn hP1 hD1 hk1
          have hP : va_P (dC, dI) vwCl [(m0, .inr (11, oX11 ra x0)), (ra 13, .inl (kI, 700, .inl q_tape))] H := hPa
          have hD : va_D A [(m0, .inr (11, oX11 ra x0)), (ra 13, .inl (kI, 700, .inl q_tape))] := hDa
          clear hPa hDa
          refine W.widen (k := 0) (n := 0) (Nat.le_of_ble_eq_true rfl) (Nat.le_of_ble_eq_true rfl) ?_
          subst w12
          refine lv_aload_n hx hb dX11_is_56 rfl (lv_at hl 0 rfl) ?_
          refine va_get (D := (dC, dI)) (ci := 11) (v := .ref (ra 13)) (C := RX11) (T := TX11) (N := 61) hx hb hts hin11 hown hK hP 0 rfl rfl 14 (Nat.le_of_ble_eq_true rfl) hw_0 (fun _ h9 => h9) rfl dX11_is_57 ?_
          refine lv_aload_n hx hb dX11_is_60 rfl (lv_at hl 0 rfl) ?_
          refine va_get (D := (dC, dI)) (ci := 11) (v := .int (x0 6)) (C := RX11) (T := TX11) (N := 61) hx hb hts hin11 hown hK hP 0 rfl rfl 20 (Nat.le_of_ble_eq_true rfl) hw_1 (fun _ h9 => h9) rfl dX11_is_61 ?_
          refine lv_iload_n hx hb dX11_is_64 rfl (lv_at hl 3 rfl) ?_
          refine lv_iadd hx hb dX11_is_65 ?_
          have b13 : iv 0 699 ((x0 6) + v39_loc3) := is_ix (hX 6 : iv 0 700 (x0 6)) (hX 7 : iv 0 700 (x0 7)) (iv_w b9 (by decide) (by decide)) hr4 (Int32.not_le.mp c8)
          refine va_iald hx hb hK hP 1 1 rfl rfl (iv_in b13 (by decide) (by decide)) dX11_is_66 ?_
          have b14 : iv 0 255 (q_tape ((x0 6) + v39_loc3).toNatClampNeg) := hq_tape _
          refine lv_icmp_ne (tgt := 74) hx hb dX11_is_67 rfl (fun c15 => ?_) (fun c15 => ?_)
          · refine lv_iconst (v := 0) hx hb dX11_is_74 ic_0 ?_
            refine lv_istore_n (lv' := [(2, .int 0), (0, .ref m0), (1, .ref (adK i)), (3, .int v39_loc3)]) hx hb dX11_is_75 rfl hl (Nat.le_of_ble_eq_true rfl) rfl (fun ls hl => ?_)
            refine lv_iinc (v := v39_loc3 + Int32.ofInt 1) (lv' := [(3, .int (v39_loc3 + Int32.ofInt 1)), (2, .int 0), (0, .ref m0), (1, .ref (adK i))]) hx hb dX11_is_76 hl (k := 3) rfl (rfl) (Nat.le_of_ble_eq_true rfl) rfl (fun ls hl => ?_)
            have b16 : iv 1 699 (v39_loc3 + Int32.ofInt 1) := iv_add b9 ivo_1 (by decide) (by decide) (by decide) (by decide)
            refine lv_goto (tgt := 39) hx hb dX11_is_79 rfl ?_
            exact ih39 0 (v39_loc3 + Int32.ofInt 1) _ _ _ (ms_up (c := 1) (d := 0) b9 hm39 (by decide) (iv_inc 1 b9 (by decide) (by decide) (by decide) (by decide)) (by decide) rfl) ((iv_w ivk_0 (by decide) (by decide))) ((iv_w b16 (by decide) (by decide))) ((show 0 = 0 ∨ nI (lenL.getD i 0) = x0 7 - x0 6 from hie_39.elim (fun w => absurd w c1) Or.inr)) ((show IsR tT i x0 sS 0 (v39_loc3 + Int32.ofInt 1) from (by subst hTQ; exact is_n hRr hir_39 c1 (hX 6 : iv 0 700 (x0 6)) (iv_w b9 (by decide) (by decide)) (Int32.not_le.mp c8) c15))) ((show x0 1 = x0 1 from rfl)) ((show x0 10 = x0 10 from rfl)) ((show x0 11 = x0 11 from rfl)) ((show x0 14 = x0 14 from rfl)) (hP) (hD) hS (lv_sub hl [2, 3, 1, 0] rfl)
          · have b17 : iv 0 255 ((bytL.getD i []).getD v39_loc3.toNatClampNeg 0) := iv_eqL c15 b14
            refine lv_iconst (v := 1) hx hb dX11_is_70 ic_1 ?_
            refine lv_goto (tgt := 75) hx hb dX11_is_71 rfl ?_
            refine lv_istore_n (lv' := [(2, .int 1), (0, .ref m0), (1, .ref (adK i)), (3, .int v39_loc3)]) hx hb dX11_is_75 rfl hl (Nat.le_of_ble_eq_true rfl) rfl (fun ls hl => ?_)
            refine lv_iinc (v := v39_loc3 + Int32.ofInt 1) (lv' := [(3, .int (v39_loc3 + Int32.ofInt 1)), (2, .int 1), (0, .ref m0), (1, .ref (adK i))]) hx hb dX11_is_76 hl (k := 3) rfl (rfl) (Nat.le_of_ble_eq_true rfl) rfl (fun ls hl => ?_)
            have b18 : iv 1 699 (v39_loc3 + Int32.ofInt 1) := iv_add b9 ivo_1 (by decide) (by decide) (by decide) (by decide)
            refine lv_goto (tgt := 39) hx hb dX11_is_79 rfl ?_
            exact ih39 1 (v39_loc3 + Int32.ofInt 1) _ _ _ (ms_up (c := 1) (d := 0) b9 hm39 (by decide) (iv_inc 1 b9 (by decide) (by decide) (by decide) (by decide)) (by decide) rfl) ((iv_w ivk_1 (by decide) (by decide))) ((iv_w b18 (by decide) (by decide))) ((show 1 = 0 ∨ nI (lenL.getD i 0) = x0 7 - x0 6 from hie_39.elim (fun w => absurd w c1) Or.inr)) ((show IsR tT i x0 sS 1 (v39_loc3 + Int32.ofInt 1) from (by subst hTQ; exact is_y hir_39 c1 (hX 6 : iv 0 700 (x0 6)) (iv_w b9 (by decide) (by decide)) c15))) ((show x0 1 = x0 1 from rfl)) ((show x0 10 = x0 10 from rfl)) ((show x0 11 = x0 11 from rfl)) ((show x0 14 = x0 14 from rfl)) (hP) (hD) hS (lv_sub hl [2, 3, 1, 0] rfl)
  refine lv_aload_n hx hb dX11_is_0 rfl (lv_at hl 0 rfl) ?_
  refine va_get (D := (dC, dI)) (ci := 11) (v := .int (x0 8)) (C := RX11) (T := TX11) (N := 61) hx hb hts hin11 hown hK hP 0 rfl rfl 22 (Nat.le_of_ble_eq_true rfl) hw_2 (fun _ h9 => h9) rfl dX11_is_1 ?_
  refine lv_if_ne (tgt := 35) hx hb dX11_is_4 rfl (fun c19 => ?_) (fun c19 => ?_)
  · have b20 : iv 1 5 (x0 8) := iv_neLo c19 (hX 8 : iv 0 5 (x0 8)) ivk_0 (by decide) (by decide)
    refine lv_iconst (v := 0) hx hb dX11_is_35 ic_0 ?_
    refine lv_istore_n (lv' := [(2, .int 0), (0, .ref m0), (1, .ref (adK i))]) hx hb dX11_is_36 rfl hl (Nat.le_of_ble_eq_true rfl) rfl (fun ls hl => ?_)
    refine lv_iconst (v := 0) hx hb dX11_is_37 ic_0 ?_
    refine lv_istore_n (lv' := [(3, .int 0), (2, .int 0), (0, .ref m0), (1, .ref (adK i))]) hx hb dX11_is_38 rfl hl (Nat.le_of_ble_eq_true rfl) rfl (fun ls hl => ?_)
    exact hJ39 _ 0 0 _ _ _ (Nat.lt_succ_self _) ((iv_w ivk_0 (by decide) (by decide))) ((iv_w ivk_0 (by decide) (by decide))) ((show 0 = 0 ∨ nI (lenL.getD i 0) = x0 7 - x0 6 from Or.inl rfl)) ((show IsR tT i x0 sS 0 0 from is_b hRr c19)) ((show x0 1 = x0 1 from rfl)) ((show x0 10 = x0 10 from rfl)) ((show x0 11 = x0 11 from rfl)) ((show x0 14 = x0 14 from rfl)) (hP) (hD) hS (lv_sub hl [2, 3, 1, 0] rfl)
  · have b21 : iv 0 0 (x0 8) := iv_eqL c19 ivk_0
    refine lv_aload_n hx hb dX11_is_7 rfl (lv_at hl 0 rfl) ?_
    refine va_get (D := (dC, dI)) (ci := 11) (v := .int (x0 4)) (C := RX11) (T := TX11) (N := 61) hx hb hts hin11 hown hK hP 0 rfl rfl 18 (Nat.le_of_ble_eq_true rfl) hw_3 (fun _ h9 => h9) rfl dX11_is_8 ?_
    refine lv_iconst (v := 1) hx hb dX11_is_11 ic_1 ?_
    refine lv_icmp_ne (tgt := 35) hx hb dX11_is_12 rfl (fun c22 => ?_) (fun c22 => ?_)
    · refine lv_iconst (v := 0) hx hb dX11_is_35 ic_0 ?_
      refine lv_istore_n (lv' := [(2, .int 0), (0, .ref m0), (1, .ref (adK i))]) hx hb dX11_is_36 rfl hl (Nat.le_of_ble_eq_true rfl) rfl (fun ls hl => ?_)
      refine lv_iconst (v := 0) hx hb dX11_is_37 ic_0 ?_
      refine lv_istore_n (lv' := [(3, .int 0), (2, .int 0), (0, .ref m0), (1, .ref (adK i))]) hx hb dX11_is_38 rfl hl (Nat.le_of_ble_eq_true rfl) rfl (fun ls hl => ?_)
      exact hJ39 _ 0 0 _ _ _ (Nat.lt_succ_self _) ((iv_w ivk_0 (by decide) (by decide))) ((iv_w ivk_0 (by decide) (by decide))) ((show 0 = 0 ∨ nI (lenL.getD i 0) = x0 7 - x0 6 from Or.inl rfl)) ((show IsR tT i x0 sS 0 0 from is_t hRr c19 c22)) ((show x0 1 = x0 1 from rfl)) ((show x0 10 = x0 10 from rfl)) ((show x0 11 = x0 11 from rfl)) ((show x0 14 = x0 14 from rfl)) (hP) (hD) hS (lv_sub hl [2, 3, 1, 0] rfl)
    · have b23 : iv 1 1 (x0 4) := iv_eqL c22 ivk_1
      refine lv_aload_n hx hb dX11_is_15 rfl (lv_at hl 1 rfl) ?_
      obtain ⟨hPc, hDc, hFc, hJn⟩ := cl_a (wc := []) (wr := [(m0, .inr (11, oX11 ra x0)), (ra 13, .inl (kI, 700, .inl q_tape))]) hP hD hS hA [] [0, 1] rfl rfl (by decide +kernel)
      refine va_calli (va_runV (As := []) (rest := []) ⟨hx, hb, hml, hown, hts⟩ (sJ_length l dC dI kB kI kJ kZ kC kS s.heap.size adK adV i (hi)) (cwV 0 hts gX11_is_J0_length_8abf5 rfl rfl rfl (by decide +kernel) ⟨Nat.le_of_ble_eq_true rfl, Nat.le_of_ble_eq_true rfl⟩) ⟨fun a U g mk q => by obtain ⟨q0, q1, qP, qE, qD, qL⟩ := q; exact ⟨q0, q1, qP, kE_call qE, qD, kL_call qL⟩, kS_recv hKL.1 hi hS, fun U hU hW => ⟨rfl, by rw [hU], by rw [hU]; exact hPc, kE_warm hW hE, hDc.weaken (fun _ _ _ _ => trivial), kL_at hKL hS hFc hW hU⟩⟩ rfl rfl hl.1 rfl (lv_room (Nat.le_of_ble_eq_true rfl)) dX11_is_16 ⟨Nat.le_of_ble_eq_true rfl, Nat.le_of_ble_eq_true rfl⟩) hS (fun q _ h => hFc q h) hFc (fun r24 u t H locs ht hvm w25 hB hz1 hk1 hS => ?_)
      obtain ⟨hP1, hD1⟩ := hB
      try dsimp only at w25
      obtain ⟨hPa, hDa⟩ := hJn (w1 := []) hk1 ht hP1 hD1
      clear hP hD hPc hDc hFc hJn hP1 hD1 hk1
      have hP : va_P (dC, dI) vwCl [(m0, .inr (11, oX11 ra x0)), (ra 13, .inl (kI, 700, .inl q_tape))] H := hPa
      have hD : va_D A [(m0, .inr (11, oX11 ra x0)), (ra 13, .inl (kI, 700, .inl q_tape))] := hDa
      clear hPa hDa
      refine W.widen (k := 0) (n := 0) (Nat.le_of_ble_eq_true rfl) (Nat.le_of_ble_eq_true rfl) ?_
      obtain ⟨w25, b26⟩ := w25
      subst w25
      refine lv_aload_n hx hb dX11_is_19 rfl (lv_at hl 0 rfl) ?_
      refine va_get (D := (dC, dI)) (ci := 11) (v := .int (x0 7)) (C := RX11) (T := TX11) (N := 61) hx hb hts hin11 hown hK hP 0 rfl rfl 21 (Nat.le_of_ble_eq_true rfl) hw_4 (fun _ h9 => h9) rfl dX11_is_20 ?_
      refine lv_aload_n hx hb dX11_is_23 rfl (lv_at hl 0 rfl) ?_
      refine va_get (D := (dC, dI)) (ci := 11) (v := .int (x0 6)) (C := RX11) (T := TX11) (N := 61) hx hb hts hin11 hown hK hP 0 rfl rfl 20 (Nat.le_of_ble_eq_true rfl) hw_1 (fun _ h9 => h9) rfl dX11_is_24 ?_
      refine lv_isub hx hb dX11_is_27 ?_
      refine lv_icmp_ne (tgt := 35) hx hb dX11_is_28 rfl (fun c27 => ?_) (fun c27 => ?_)
      · refine lv_iconst (v := 0) hx hb dX11_is_35 ic_0 ?_
        refine lv_istore_n (lv' := [(2, .int 0), (0, .ref m0), (1, .ref (adK i))]) hx hb dX11_is_36 rfl hl (Nat.le_of_ble_eq_true rfl) rfl (fun ls hl => ?_)
        refine lv_iconst (v := 0) hx hb dX11_is_37 ic_0 ?_
        refine lv_istore_n (lv' := [(3, .int 0), (2, .int 0), (0, .ref m0), (1, .ref (adK i))]) hx hb dX11_is_38 rfl hl (Nat.le_of_ble_eq_true rfl) rfl (fun ls hl => ?_)
        exact hJ39 _ 0 0 _ _ _ (Nat.lt_succ_self _) ((iv_w ivk_0 (by decide) (by decide))) ((iv_w ivk_0 (by decide) (by decide))) ((show 0 = 0 ∨ nI (lenL.getD i 0) = x0 7 - x0 6 from Or.inl rfl)) ((show IsR tT i x0 sS 0 0 from is_l hRr c19 c27)) ((show x0 1 = x0 1 from rfl)) ((show x0 10 = x0 10 from rfl)) ((show x0 11 = x0 11 from rfl)) ((show x0 14 = x0 14 from rfl)) (hP) (hD) hS (lv_sub hl [2, 3, 1, 0] rfl)
      · have b28 : iv 0 699 ((x0 7) - (x0 6)) := iv_eqR c27 b26
        refine lv_iconst (v := 1) hx hb dX11_is_31 ic_1 ?_
        refine lv_goto (tgt := 36) hx hb dX11_is_32 rfl ?_
        refine lv_istore_n (lv' := [(2, .int 1), (0, .ref m0), (1, .ref (adK i))]) hx hb dX11_is_36 rfl hl (Nat.le_of_ble_eq_true rfl) rfl (fun ls hl => ?_)
        refine lv_iconst (v := 0) hx hb dX11_is_37 ic_0 ?_
        refine lv_istore_n (lv' := [(3, .int 0), (2, .int 1), (0, .ref m0), (1, .ref (adK i))]) hx hb dX11_is_38 rfl hl (Nat.le_of_ble_eq_true rfl) rfl (fun ls hl => ?_)
        exact hJ39 _ 1 0 _ _ _ (Nat.lt_succ_self _) ((iv_w ivk_1 (by decide) (by decide))) ((iv_w ivk_0 (by decide) (by decide))) ((show 1 = 0 ∨ nI (lenL.getD i 0) = x0 7 - x0 6 from Or.inr c27)) ((show IsR tT i x0 sS 1 0 from is_0 c19 c22 c27)) ((show x0 1 = x0 1 from rfl)) ((show x0 10 = x0 10 from rfl)) ((show x0 11 = x0 11 from rfl)) ((show x0 14 = x0 14 from rfl)) (hP) (hD) hS (lv_sub hl [2, 3, 1, 0] rfl)
def rm_s11_which : Room := { frames := 5, cells := 0, slots := 0, locals := 108 }
set_option maxHeartbeats 4000000 in
set_option maxRecDepth 100000 in
theorem s11_which (l : Launch) (dC : Nat → ClassId) (dI : Nat → Nat → Nat) (kB kI kJ kZ kC kS : ClassId) (sz : Nat) (adK : Nat → Nat) (adV : Nat → Nat) (m0 : Nat) (ra : Nat → Nat) (x0 : Nat → Int32) (q_tape : Nat → Int32) (b0 : Nat) (fw : Nat → Option Nat) (j0 : Nat) (tT : Nat → Int32) (nN : Int32) (sS : StT) (hX : fI lX11 hX11 x0) (hq_tape : fI (fun _ => 0) (fun _ => 255) q_tape) (hj : j0 ≤ 4) (hrow : ∀ k, k < 4 → fw k = some (adK (j0 + k))) (hRr : RRd tT nN x0 sS) (hTQ : tT = q_tape) : Met l yX11_which wsX11_which rm_s11_which (va_Pc [.ref m0, .ref b0] (fun U => U.heap.size = sz ∧ va_P (dC, dI) vwCl [(m0, .inr (11, oX11 ra x0)), (ra 13, .inl (kI, 700, .inl q_tape)), (b0, .inl (kS, 4, .inr (.inr (.inr (.inr fw)))))] U.heap ∧ kE dC dI kB kI kJ kZ kC kS U ∧ va_D (fun _ => True) [(m0, .inr (11, oX11 ra x0)), (ra 13, .inl (kI, 700, .inl q_tape)), (b0, .inl (kS, 4, .inr (.inr (.inr (.inr fw)))))] ∧ kL adK adV (va_A [(m0, .inr (11, oX11 ra x0)), (ra 13, .inl (kI, 700, .inl q_tape)), (b0, .inl (kS, 4, .inr (.inr (.inr (.inr fw)))))] sz) U)) (va_Qi (fun (r : Int32) (_ : Unit) => iv (-1) 3 r ∧ (r = whS tT j0 sS)) (fun _ t => va_P (dC, dI) vwCl [(m0, .inr (11, oX11 ra x0)), (ra 13, .inl (kI, 700, .inl q_tape)), (b0, .inl (kS, 4, .inr (.inr (.inr (.inr fw)))))] t.heap ∧ va_D (va_A [(m0, .inr (11, oX11 ra x0)), (ra 13, .inl (kI, 700, .inl q_tape)), (b0, .inl (kS, 4, .inr (.inr (.inr (.inr fw)))))] sz) [(m0, .inr (11, oX11 ra x0)), (ra 13, .inl (kI, 700, .inl q_tape)), (b0, .inl (kS, 4, .inr (.inr (.inr (.inr fw)))))]) (va_A [(m0, .inr (11, oX11 ra x0)), (ra 13, .inl (kI, 700, .inl q_tape)), (b0, .inl (kS, 4, .inr (.inr (.inr (.inr fw)))))] sz)) 0 0 (va_A [(m0, .inr (11, oX11 ra x0)), (ra 13, .inl (kI, 700, .inl q_tape)), (b0, .inl (kS, 4, .inr (.inr (.inr (.inr fw)))))] sz) := by
  refine Met.ofW (cc := cX11_which) (maxL := 3) (ret := (some .int)) (by decide) rfl ?_
  intro p e s m args0 below meth c s₁ B hml hv
  obtain ⟨hargs, hsz, hP, hE, hD0, hKL⟩ := hv
  have hx := B.exec
  have hb := B.bytes
  have hr := B.returns
  have hts := atoms_spec (ws := wsX11_which) B.pre
  have hown : s.vm.findClass RX11 = some m.cls := findClass_of_methodNamed B.named
  have hlocks := B.notSynchronized
  have hK := hE.1
  have hin11 : ∀ w ∈ wsX110, w ∈ wsX11_which := fun _ h9 => List.mem_cons_of_mem _ (List.mem_append_right _ h9)
  subst hsz
  have hD := hD0.self (sz := s.heap.size)
  generalize hAe : va_A [(m0, .inr (11, oX11 ra x0)), (ra 13, .inl (kI, 700, .inl q_tape)), (b0, .inl (kS, 4, .inr (.inr (.inr (.inr fw)))))] s.heap.size = A at hD hKL ⊢
  have hA : ∀ q : Nat, s.heap.size ≤ q → A q := fun q h => by rw [← hAe]; exact Or.inr h
  have hS : va_S A s.heap s.heap [] := va_S.rf
  have hP : va_P (dC, dI) vwCl [(m0, .inr (11, oX11 ra x0)), (ra 13, .inl (kI, 700, .inl q_tape)), (b0, .inl (kS, 4, .inr (.inr (.inr (.inr fw)))))] s.heap := hP
  have hl := lv_entry ([.ref m0, .ref b0]) (n := 3) (Nat.le_of_ble_eq_true rfl)
  have hla : entryFrame m args0 3 = entryFrame m ([.ref m0, .ref b0] : List Value).toArray 3 := by rw [hargs]
  rw [hla, lg_entry_eq]
  generalize (lg_sl ([.ref m0, .ref b0]) ++ List.replicate (3 - (lg_sl ([.ref m0, .ref b0])).length) Slot.unset).toArray = ls at hl ⊢
  have hl : lv_has ls 3 [(0, .ref m0), (1, .ref b0)] := hl
  have hJ2 : ∀ (n : Nat) (v2_loc2 : Int32) (H : Heap) (locs : List Loc) (ls : Array Slot), (4 - v2_loc2.toInt).toNat < n → iv 0 4 v2_loc2 → (∀ m : Nat, (m : Int) < v2_loc2.toInt → wS tT (j0 + m) sS = 0) → va_P (dC, dI) vwCl [(m0, .inr (11, oX11 ra x0)), (ra 13, .inl (kI, 700, .inl q_tape)), (b0, .inl (kS, 4, .inr (.inr (.inr (.inr fw)))))] H → va_D A [(m0, .inr (11, oX11 ra x0)), (ra 13, .inl (kI, 700, .inl q_tape)), (b0, .inl (kS, 4, .inr (.inr (.inr (.inr fw)))))] → va_S A s.heap H locs → lv_has ls 3 [(0, .ref m0), (1, .ref b0), (2, .int v2_loc2)] → W p l e (headSpec wsX11_which rm_s11_which).room s m args0 below meth c H locs (0) (0) (MQ below (va_Qi (fun (r : Int32) (_ : Unit) => iv (-1) 3 r ∧ (r = whS tT j0 sS)) (fun _ t => va_P (dC, dI) vwCl [(m0, .inr (11, oX11 ra x0)), (ra 13, .inl (kI, 700, .inl q_tape)), (b0, .inl (kS, 4, .inr (.inr (.inr (.inr fw)))))] t.heap ∧ va_D A [(m0, .inr (11, oX11 ra x0)), (ra 13, .inl (kI, 700, .inl q_tape)), (b0, .inl (kS, 4, .inr (.inr (.inr (.inr fw)))))]) A) args0 s 0 0 A) (F0 m 2 ls []) := by
    intro n
    induction n with
    | zero => intro v2_loc2 H locs ls hm2; exact absurd hm2 (Nat.not_lt_zero _)
    | succ n ih2 =>
      intro v2_loc2 H locs ls hm2 h2_1 hwh_2 hP hD hS hl
      refine lv_iload_n hx hb dX11_which_2 rfl (lv_at hl 2 rfl) ?_
      refine lv_aload_n hx hb dX11_which_3 rfl (lv_at hl 1 rfl) ?_
      refine va_alen (v := 4) hx hb hK hP 2 5 rfl rfl rfl dX11_which_4 ?_
      refine lv_icmp_ge (tgt := 26) hx hb dX11_which_5 rfl (fun c1 => ?_) (fun c1 => ?_)
      · have b2 : iv 4 4 v2_loc2 := iv_leR c1 ivk_4 h2_1 (by decide) (by decide)
        refine lv_iconst (v := (-1)) hx hb dX11_which_26 ic_m1 ?_
        have hP9 := hP
        have hD9 := hD
        exact W.iret (v := (-1)) hx hb hr (fun t ht hW => ⟨⟨(-1), (), rfl, ⟨(iv_w ivk_m1 (by decide) (by decide)), wh_n hwh_2 c1⟩, by rw [ht]; exact hP9, hD9⟩, hS.F ht⟩) hS.2.2 dX11_which_27
      · have b3 : iv 0 3 v2_loc2 := iv_ltL (Int32.not_le.mp c1) h2_1 ivk_4 (by decide) (by decide)
        refine lv_aload_n hx hb dX11_which_8 rfl (lv_at hl 0 rfl) ?_
        refine lv_aload_n hx hb dX11_which_9 rfl (lv_at hl 1 rfl) ?_
        refine lv_iload_n hx hb dX11_which_10 rfl (lv_at hl 2 rfl) ?_
        refine va_aldq hx hb hK hP 2 5 rfl rfl (iv_in b3 (by decide) (by decide)) dX11_which_11 ?_
        rw [hrow _ (by have q := b3; have q2 := q.1; have q3 := q.2; have q4 := cl_nat q (by decide); omega)]
        refine W.eq (g2 := F0 m 12 ls [.ref (adK (j0 + v2_loc2.toNatClampNeg)), .ref m0]) rfl ?_
        obtain ⟨hPc, hDc, hFc, hJn⟩ := cl_a (wc := [(m0, .inr (11, oX11 ra x0)), (ra 13, .inl (kI, 700, .inl q_tape))]) (wr := [(b0, .inl (kS, 4, .inr (.inr (.inr (.inr fw)))))]) hP hD hS hA [0, 1] [2] rfl rfl (by decide +kernel)
        refine va_calli (va_runV (As := [.ref (adK (j0 + v2_loc2.toNatClampNeg))]) (rest := []) ⟨hx, hb, hml, hown, hts⟩ (s11_is l dC dI kB kI kJ kZ kC kS H.size adK adV m0 ra x0 q_tape (j0 + v2_loc2.toNatClampNeg) tT nN sS (hX) (hq_tape) ((by have q := b3; have q2 := q.1; have q3 := q.2; have q4 := cl_nat q (by decide); omega)) (hRr) (hTQ)) (cwV 1 hts gX11_which_X11_is rfl rfl rfl (by decide +kernel) ⟨Nat.le_of_ble_eq_true rfl, Nat.le_of_ble_eq_true rfl⟩) ⟨fun a U g mk q => by obtain ⟨q0, q1, qP, qE, qD, qL⟩ := q; exact ⟨q0, q1, qP, kE_call qE, qD, kL_call qL⟩, va_recv hK hP (ci := 11) (q0 := 0) rfl rfl, fun U hU hW => ⟨rfl, by rw [hU], by rw [hU]; exact hPc, kE_warm hW hE, hDc.weaken (fun _ _ _ _ => trivial), kL_at hKL hS hFc hW hU⟩⟩ rfl rfl hl.1 rfl (lv_room (Nat.le_of_ble_eq_true rfl)) dX11_which_12 ⟨Nat.le_of_ble_eq_true rfl, Nat.le_of_ble_eq_true rfl⟩) hS (fun q _ h => hFc q h) hFc (fun r4 u t H locs ht hvm w5 hB hz1 hk1 hS => ?_)
        obtain ⟨hP1, hD1⟩ := hB
        try dsimp only at w5
        obtain ⟨hPa, hDa⟩ := hJn (w1 := [(m0, .inr (11, oX11 ra x0)), (ra 13, .inl (kI, 700, .inl q_tape))]) hk1 ht hP1 hD1
        clear hP hD hPc hDc hFc hJn hP1 hD1 hk1
        have hP : va_P (dC, dI) vwCl [(b0, .inl (kS, 4, .inr (.inr (.inr (.inr fw))))), (m0, .inr (11, oX11 ra x0)), (ra 13, .inl (kI, 700, .inl q_tape))] H := hPa
        have hD : va_D A [(b0, .inl (kS, 4, .inr (.inr (.inr (.inr fw))))), (m0, .inr (11, oX11 ra x0)), (ra 13, .inl (kI, 700, .inl q_tape))] := hDa
        clear hPa hDa
        refine W.widen (k := 0) (n := 0) (Nat.le_of_ble_eq_true rfl) (Nat.le_of_ble_eq_true rfl) ?_
        obtain ⟨w5, b6⟩ := w5
        subst w5
        refine lv_if_eq (tgt := 20) hx hb dX11_which_15 rfl (fun c7 => ?_) (fun c7 => ?_)
        · have b8 : iv 0 0 (wS tT (j0 + v2_loc2.toNatClampNeg) sS) := iv_eqL c7 ivk_0
          refine lv_iinc (v := v2_loc2 + Int32.ofInt 1) (lv' := [(2, .int (v2_loc2 + Int32.ofInt 1)), (0, .ref m0), (1, .ref b0)]) hx hb dX11_which_20 hl (k := 2) rfl (rfl) (Nat.le_of_ble_eq_true rfl) rfl (fun ls hl => ?_)
          have b9 : iv 1 4 (v2_loc2 + Int32.ofInt 1) := iv_add b3 ivo_1 (by decide) (by decide) (by decide) (by decide)
          refine lv_goto (tgt := 2) hx hb dX11_which_23 rfl ?_
          have hPD9 := cl_s (wc := [(m0, .inr (11, oX11 ra x0)), (ra 13, .inl (kI, 700, .inl q_tape)), (b0, .inl (kS, 4, .inr (.inr (.inr (.inr fw)))))]) hP hD [1, 2, 0] rfl (by decide +kernel)
          exact ih2 (v2_loc2 + Int32.ofInt 1) _ _ _ (ms_up (c := 1) (d := 0) b3 hm2 (by decide) (iv_inc 1 b3 (by decide) (by decide) (by decide) (by decide)) (by decide) rfl) ((iv_w b9 (by decide) (by decide))) ((show ∀ m : Nat, (m : Int) < (v2_loc2 + Int32.ofInt 1).toInt → wS tT (j0 + m) sS = 0 from al_s (P := fun m => wS tT (j0 + m) sS = 0) hwh_2 (iv_w b3 (by decide) (by decide)) c7)) (hPD9.1) (hPD9.2) hS (lv_sub hl [1, 2, 0] rfl)
        · have b10 : iv 1 1 (wS tT (j0 + v2_loc2.toNatClampNeg) sS) := iv_neLo c7 b6 ivk_0 (by decide) (by decide)
          refine lv_iload_n hx hb dX11_which_18 rfl (lv_at hl 2 rfl) ?_
          have hPD9 := cl_s (wc := [(m0, .inr (11, oX11 ra x0)), (ra 13, .inl (kI, 700, .inl q_tape)), (b0, .inl (kS, 4, .inr (.inr (.inr (.inr fw)))))]) hP hD [1, 2, 0] rfl (by decide +kernel)
          have hP9 := hPD9.1
          have hD9 := hPD9.2
          exact W.iret (v := v2_loc2) hx hb hr (fun t ht hW => ⟨⟨v2_loc2, (), rfl, ⟨(iv_w b3 (by decide) (by decide)), wh_y hwh_2 b3 c7⟩, by rw [ht]; exact hP9, hD9⟩, hS.F ht⟩) hS.2.2 dX11_which_19
  refine lv_iconst (v := 0) hx hb dX11_which_0 ic_0 ?_
  refine lv_istore_n (lv' := [(2, .int 0), (0, .ref m0), (1, .ref b0)]) hx hb dX11_which_1 rfl hl (Nat.le_of_ble_eq_true rfl) rfl (fun ls hl => ?_)
  exact hJ2 _ 0 _ _ _ (Nat.lt_succ_self _) ((iv_w ivk_0 (by decide) (by decide))) ((show ∀ m : Nat, (m : Int) < ((0 : Int32)).toInt → wS tT (j0 + m) sS = 0 from al_0)) (hP) (hD) hS (lv_sub hl [1, 2, 0] rfl)
def rm_s11_numberNow_0_11 : Room := { frames := 1, cells := 0, slots := 0, locals := 21 }
set_option maxHeartbeats 4000000 in
set_option maxRecDepth 100000 in
theorem s11_numberNow_0_11 (l : Launch) (dC : Nat → ClassId) (dI : Nat → Nat → Nat) (kB kI kJ kZ kC kS : ClassId) (sz : Nat) (m0 : Nat) (ra : Nat → Nat) (x0 : Nat → Int32) (tT : Nat → Int32) (nN : Int32) (sS : StT) (hX : fI lX11 hX11 x0) (hRr : RRd tT nN x0 sS) : Met l yX11_numberNow wsX11_numberNow rm_s11_numberNow_0_11 (va_Pc [.ref m0, .int 0, .int 11] (fun U => U.heap.size = sz ∧ va_P (dC, dI) vwCl [(m0, .inr (11, oX11 ra x0))] U.heap ∧ kE dC dI kB kI kJ kZ kC kS U ∧ va_D (fun _ => True) [(m0, .inr (11, oX11 ra x0))])) (va_Qi (fun (r : Int32) (_ : Unit) => iv 0 11 r ∧ (okT (numT tT 0 11 sS) → r = valS tT sS)) (fun _ t => ∃ (x0' : Nat → Int32), fI lX11 hX11 x0' ∧ ((x0' 2).toInt = (x0 2).toInt) ∧ (x0' 3 = x0 3) ∧ (RRd tT nN x0' (numT tT 0 11 sS)) ∧ (x0' 1 = x0 1) ∧ (x0' 10 = x0 10) ∧ (x0' 11 = x0 11) ∧ (x0' 14 = x0 14) ∧ va_P (dC, dI) vwCl [(m0, .inr (11, oX11 ra x0'))] t.heap ∧ va_D (va_A [(m0, .inr (11, oX11 ra x0))] sz) [(m0, .inr (11, oX11 ra x0'))]) (va_A [(m0, .inr (11, oX11 ra x0))] sz)) 0 0 (va_A [(m0, .inr (11, oX11 ra x0))] sz) := by
  refine Met.ofW (cc := cX11_numberNow) (maxL := 3) (ret := (some .int)) (by decide) rfl ?_
  intro p e s m args0 below meth c s₁ B hml hv
  obtain ⟨hargs, hsz, hP, hE, hD0⟩ := hv
  have hx := B.exec
  have hb := B.bytes
  have hr := B.returns
  have hts := atoms_spec (ws := wsX11_numberNow) B.pre
  have hown : s.vm.findClass RX11 = some m.cls := findClass_of_methodNamed B.named
  have hlocks := B.notSynchronized
  have hK := hE.1
  have hin11 : ∀ w ∈ wsX110, w ∈ wsX11_numberNow := fun _ h9 => List.mem_cons_of_mem _ (List.mem_append_right _ h9)
  have hw_0 := hts (.fieldLink RX11 184 "PathProberModel" "bad" "I") (List.mem_of_getElem? (i := 1) rfl)
  have hw_1 := hts (.fieldLink RX11 161 "PathProberModel" "token" "I") (List.mem_of_getElem? (i := 2) rfl)
  have hw_2 := hts (.fieldLink RX11 181 "PathProberModel" "stops" "I") (List.mem_of_getElem? (i := 3) rfl)
  have hw_3 := hts (.fieldLink RX11 158 "PathProberModel" "begins" "I") (List.mem_of_getElem? (i := 4) rfl)
  have hw_4 := hts (.fieldLink RX11 171 "PathProberModel" "number" "I") (List.mem_of_getElem? (i := 5) rfl)
  subst hsz
  have hD := hD0.self (sz := s.heap.size)
  generalize hAe : va_A [(m0, .inr (11, oX11 ra x0))] s.heap.size = A at hD ⊢
  have hA : ∀ q : Nat, s.heap.size ≤ q → A q := fun q h => by rw [← hAe]; exact Or.inr h
  have hS : va_S A s.heap s.heap [] := va_S.rf
  have hP : va_P (dC, dI) vwCl [(m0, .inr (11, oX11 ra x0))] s.heap := hP
  have hl := lv_entry ([.ref m0, .int 0, .int 11]) (n := 3) (Nat.le_of_ble_eq_true rfl)
  have hla : entryFrame m args0 3 = entryFrame m ([.ref m0, .int 0, .int 11] : List Value).toArray 3 := by rw [hargs]
  rw [hla, lg_entry_eq]
  generalize (lg_sl ([.ref m0, .int 0, .int 11]) ++ List.replicate (3 - (lg_sl ([.ref m0, .int 0, .int 11])).length) Slot.unset).toArray = ls at hl ⊢
  have hl : lv_has ls 3 [(0, .ref m0), (1, .int 0), (2, .int 11)] := hl
  refine lv_aload_n hx hb dX11_numberNow_0 rfl (lv_at hl 0 rfl) ?_
  refine va_get (D := (dC, dI)) (ci := 11) (v := .int (x0 8)) (C := RX11) (T := TX11) (N := 61) hx hb hts hin11 hown hK hP 0 rfl rfl 22 (Nat.le_of_ble_eq_true rfl) hw_0 (fun _ h9 => h9) rfl dX11_numberNow_1 ?_
  refine lv_if_eq (tgt := 9) hx hb dX11_numberNow_4 rfl (fun c1 => ?_) (fun c1 => ?_)
  · have b2 : iv 0 0 (x0 8) := iv_eqL c1 ivk_0
    refine lv_aload_n hx hb dX11_numberNow_9 rfl (lv_at hl 0 rfl) ?_
    refine va_get (D := (dC, dI)) (ci := 11) (v := .int (x0 4)) (C := RX11) (T := TX11) (N := 61) hx hb hts hin11 hown hK hP 0 rfl rfl 18 (Nat.le_of_ble_eq_true rfl) hw_1 (fun _ h9 => h9) rfl dX11_numberNow_10 ?_
    refine lv_iconst (v := 2) hx hb dX11_numberNow_13 ic_2 ?_
    refine lv_icmp_eq (tgt := 25) hx hb dX11_numberNow_14 rfl (fun c3 => ?_) (fun c3 => ?_)
    · have b4 : iv 2 2 (x0 4) := iv_eqL c3 ivk_2
      refine lv_aload_n hx hb dX11_numberNow_25 rfl (lv_at hl 0 rfl) ?_
      refine va_get (D := (dC, dI)) (ci := 11) (v := .int (x0 7)) (C := RX11) (T := TX11) (N := 61) hx hb hts hin11 hown hK hP 0 rfl rfl 21 (Nat.le_of_ble_eq_true rfl) hw_2 (fun _ h9 => h9) rfl dX11_numberNow_26 ?_
      refine lv_aload_n hx hb dX11_numberNow_29 rfl (lv_at hl 0 rfl) ?_
      refine va_get (D := (dC, dI)) (ci := 11) (v := .int (x0 6)) (C := RX11) (T := TX11) (N := 61) hx hb hts hin11 hown hK hP 0 rfl rfl 20 (Nat.le_of_ble_eq_true rfl) hw_3 (fun _ h9 => h9) rfl dX11_numberNow_30 ?_
      refine lv_isub hx hb dX11_numberNow_33 ?_
      have b5 : iv (-700) 700 ((x0 7) - (x0 6)) := iv_sub (hX 7 : iv 0 700 (x0 7)) (hX 6 : iv 0 700 (x0 6)) (by decide) (by decide) (by decide) (by decide)
      refine lv_iconst (v := 2) hx hb dX11_numberNow_34 ic_2 ?_
      refine lv_icmp_gt (tgt := 54) hx hb dX11_numberNow_35 rfl (fun c6 => ?_) (fun c6 => ?_)
      · have b7 : iv 3 700 ((x0 7) - (x0 6)) := iv_ltR c6 ivk_2 b5 (by decide) (by decide)
        refine lv_aload_n hx hb dX11_numberNow_54 rfl (lv_at hl 0 rfl) ?_
        refine lv_iconst (v := 2) hx hb dX11_numberNow_55 ic_2 ?_
        obtain ⟨hPc, hDc, hFc, hJn⟩ := cl_a (wc := [(m0, .inr (11, oX11 ra x0))]) (wr := []) hP hD hS hA [0] [] rfl rfl (by decide +kernel)
        refine va_callv (va_runV (As := [.int 2]) (rest := []) ⟨hx, hb, hml, hown, hts⟩ (s11_wrong l dC dI kB kI kJ kZ kC kS s.heap.size m0 ra x0 2 tT nN sS (hX) ((iv_w ivk_2 (by decide) (by decide))) (hRr)) (cwV 1 hts gX11_numberNow_X11_wrong rfl rfl rfl (by decide +kernel) ⟨Nat.le_of_ble_eq_true rfl, Nat.le_of_ble_eq_true rfl⟩) ⟨fun a U g mk q => by obtain ⟨q0, q1, qP, qE, qD⟩ := q; exact ⟨q0, q1, qP, kE_call qE, qD⟩, va_recv hK hP (ci := 11) (q0 := 0) rfl rfl, fun U hU hW => ⟨rfl, by rw [hU], by rw [hU]; exact hPc, kE_warm hW hE, hDc.weaken (fun _ _ _ _ => trivial)⟩⟩ rfl rfl hl.1 rfl (lv_room (Nat.le_of_ble_eq_true rfl)) dX11_numberNow_56 ⟨Nat.le_of_ble_eq_true rfl, Nat.le_of_ble_eq_true rfl⟩) hS (fun q _ h => hFc q h) hFc (fun u t H locs ht hvm w9 hB hz1 hk1 hS => ?_)
        obtain ⟨y10, hq11, hq12, hq13, hq14, hq15, hq16, hq17, hq18, hq19, hP1, hD1⟩ := hB
        try dsimp only at w9
        obtain ⟨hPa, hDa⟩ := hJn (w1 := [(m0, .inr (11, oX11 ra y10))]) hk1 ht hP1 hD1
        clear hP hD hPc hDc hFc hJn hP1 hD1 hk1
        have hP : va_P (dC, dI) vwCl [(m0, .inr (11, oX11 ra y10))] H := hPa
        have hD : va_D A [(m0, .inr (11, oX11 ra y10))] := hDa
        clear hPa hDa
        refine W.widen (k := 0) (n := 0) (Nat.le_of_ble_eq_true rfl) (Nat.le_of_ble_eq_true rfl) ?_
        refine lv_aload_n hx hb dX11_numberNow_59 rfl (lv_at hl 0 rfl) ?_
        refine va_get (D := (dC, dI)) (ci := 11) (v := .int (y10 8)) (C := RX11) (T := TX11) (N := 61) hx hb hts hin11 hown hK hP 0 rfl rfl 22 (Nat.le_of_ble_eq_true rfl) hw_0 (fun _ h9 => h9) rfl dX11_numberNow_60 ?_
        refine lv_if_ne (tgt := 73) hx hb dX11_numberNow_63 rfl (fun _ => ?_) (fun c9 => absurd c9 (iv_ne hq12 ivk_0 (by decide)))
        refine lv_iload_n hx hb dX11_numberNow_73 rfl (lv_at hl 1 rfl) ?_
        have hP9 := hP
        have hD9 := hD
        exact W.iret (v := 0) hx hb hr (fun t ht hW => ⟨⟨0, (), rfl, ⟨(iv_w ivk_0 (by decide) (by decide)), fun hk => (ok_fail ((nr_2 hRr c3 c6).symm ▸ hk)).elim⟩, y10, hq11, (show (y10 2).toInt = (x0 2).toInt from by omega), (show y10 3 = x0 3 from hq14), (show RRd tT nN y10 (numT tT 0 11 sS) from (nr_2 hRr c3 c6) ▸ hq15), (show y10 1 = x0 1 from hq16), (show y10 10 = x0 10 from hq17), (show y10 11 = x0 11 from hq18), (show y10 14 = x0 14 from hq19), by rw [ht]; exact hP9, hD9⟩, hS.F ht⟩) hS.2.2 dX11_numberNow_74
      · have b20 : iv (-700) 2 ((x0 7) - (x0 6)) := iv_leL (Int32.not_lt.mp c6) b5 ivk_2 (by decide) (by decide)
        refine lv_aload_n hx hb dX11_numberNow_38 rfl (lv_at hl 0 rfl) ?_
        refine va_get (D := (dC, dI)) (ci := 11) (v := .int (x0 5)) (C := RX11) (T := TX11) (N := 61) hx hb hts hin11 hown hK hP 0 rfl rfl 19 (Nat.le_of_ble_eq_true rfl) hw_4 (fun _ h9 => h9) rfl dX11_numberNow_39 ?_
        refine lv_iload_n hx hb dX11_numberNow_42 rfl (lv_at hl 1 rfl) ?_
        refine lv_icmp_lt (tgt := 54) hx hb dX11_numberNow_43 rfl (fun c21 => ?_) (fun c21 => ?_)
        · have b22 : iv (-2147483648) (-1) (x0 5) := iv_ltL c21 (hX 5 : iv (-2147483648) 2147483647 (x0 5)) ivk_0 (by decide) (by decide)
          refine lv_aload_n hx hb dX11_numberNow_54 rfl (lv_at hl 0 rfl) ?_
          refine lv_iconst (v := 2) hx hb dX11_numberNow_55 ic_2 ?_
          obtain ⟨hPc, hDc, hFc, hJn⟩ := cl_a (wc := [(m0, .inr (11, oX11 ra x0))]) (wr := []) hP hD hS hA [0] [] rfl rfl (by decide +kernel)
          refine va_callv (va_runV (As := [.int 2]) (rest := []) ⟨hx, hb, hml, hown, hts⟩ (s11_wrong l dC dI kB kI kJ kZ kC kS s.heap.size m0 ra x0 2 tT nN sS (hX) ((iv_w ivk_2 (by decide) (by decide))) (hRr)) (cwV 1 hts gX11_numberNow_X11_wrong rfl rfl rfl (by decide +kernel) ⟨Nat.le_of_ble_eq_true rfl, Nat.le_of_ble_eq_true rfl⟩) ⟨fun a U g mk q => by obtain ⟨q0, q1, qP, qE, qD⟩ := q; exact ⟨q0, q1, qP, kE_call qE, qD⟩, va_recv hK hP (ci := 11) (q0 := 0) rfl rfl, fun U hU hW => ⟨rfl, by rw [hU], by rw [hU]; exact hPc, kE_warm hW hE, hDc.weaken (fun _ _ _ _ => trivial)⟩⟩ rfl rfl hl.1 rfl (lv_room (Nat.le_of_ble_eq_true rfl)) dX11_numberNow_56 ⟨Nat.le_of_ble_eq_true rfl, Nat.le_of_ble_eq_true rfl⟩) hS (fun q _ h => hFc q h) hFc (fun u t H locs ht hvm w24 hB hz1 hk1 hS => ?_)
          obtain ⟨y25, hq26, hq27, hq28, hq29, hq30, hq31, hq32, hq33, hq34, hP1, hD1⟩ := hB
          try dsimp only at w24
          obtain ⟨hPa, hDa⟩ := hJn (w1 := [(m0, .inr (11, oX11 ra y25))]) hk1 ht hP1 hD1
          clear hP hD hPc hDc hFc hJn hP1 hD1 hk1
          have hP : va_P (dC, dI) vwCl [(m0, .inr (11, oX11 ra y25))] H := hPa
          have hD : va_D A [(m0, .inr (11, oX11 ra y25))] := hDa
          clear hPa hDa
          refine W.widen (k := 0) (n := 0) (Nat.le_of_ble_eq_true rfl) (Nat.le_of_ble_eq_true rfl) ?_
          refine lv_aload_n hx hb dX11_numberNow_59 rfl (lv_at hl 0 rfl) ?_
          refine va_get (D := (dC, dI)) (ci := 11) (v := .int (y25 8)) (C := RX11) (T := TX11) (N := 61) hx hb hts hin11 hown hK hP 0 rfl rfl 22 (Nat.le_of_ble_eq_true rfl) hw_0 (fun _ h9 => h9) rfl dX11_numberNow_60 ?_
          refine lv_if_ne (tgt := 73) hx hb dX11_numberNow_63 rfl (fun _ => ?_) (fun c9 => absurd c9 (iv_ne hq27 ivk_0 (by decide)))
          refine lv_iload_n hx hb dX11_numberNow_73 rfl (lv_at hl 1 rfl) ?_
          have hP9 := hP
          have hD9 := hD
          exact W.iret (v := 0) hx hb hr (fun t ht hW => ⟨⟨0, (), rfl, ⟨(iv_w ivk_0 (by decide) (by decide)), fun hk => (ok_fail ((nr_3 hRr c3 (Int32.not_lt.mp c6) (Or.inl c21)).symm ▸ hk)).elim⟩, y25, hq26, (show (y25 2).toInt = (x0 2).toInt from by omega), (show y25 3 = x0 3 from hq29), (show RRd tT nN y25 (numT tT 0 11 sS) from (nr_3 hRr c3 (Int32.not_lt.mp c6) (Or.inl c21)) ▸ hq30), (show y25 1 = x0 1 from hq31), (show y25 10 = x0 10 from hq32), (show y25 11 = x0 11 from hq33), (show y25 14 = x0 14 from hq34), by rw [ht]; exact hP9, hD9⟩, hS.F ht⟩) hS.2.2 dX11_numberNow_74
        · have b35 : iv 0 2147483647 (x0 5) := iv_leR (Int32.not_lt.mp c21) ivk_0 (hX 5 : iv (-2147483648) 2147483647 (x0 5)) (by decide) (by decide)
          refine lv_aload_n hx hb dX11_numberNow_46 rfl (lv_at hl 0 rfl) ?_
          refine va_get (D := (dC, dI)) (ci := 11) (v := .int (x0 5)) (C := RX11) (T := TX11) (N := 61) hx hb hts hin11 hown hK hP 0 rfl rfl 19 (Nat.le_of_ble_eq_true rfl) hw_4 (fun _ h9 => h9) rfl dX11_numberNow_47 ?_
          refine lv_iload_n hx hb dX11_numberNow_50 rfl (lv_at hl 2 rfl) ?_
          refine lv_icmp_le (tgt := 59) hx hb dX11_numberNow_51 rfl (fun c36 => ?_) (fun c36 => ?_)
          · have b37 : iv 0 11 (x0 5) := iv_leL c36 b35 ivk_11 (by decide) (by decide)
            refine lv_aload_n hx hb dX11_numberNow_59 rfl (lv_at hl 0 rfl) ?_
            refine va_get (D := (dC, dI)) (ci := 11) (v := .int (x0 8)) (C := RX11) (T := TX11) (N := 61) hx hb hts hin11 hown hK hP 0 rfl rfl 22 (Nat.le_of_ble_eq_true rfl) hw_0 (fun _ h9 => h9) rfl dX11_numberNow_60 ?_
            refine lv_if_ne (tgt := 73) hx hb dX11_numberNow_63 rfl (fun c9 => absurd (c1) c9) (fun _ => ?_)
            refine lv_aload_n hx hb dX11_numberNow_66 rfl (lv_at hl 0 rfl) ?_
            refine va_get (D := (dC, dI)) (ci := 11) (v := .int (x0 5)) (C := RX11) (T := TX11) (N := 61) hx hb hts hin11 hown hK hP 0 rfl rfl 19 (Nat.le_of_ble_eq_true rfl) hw_4 (fun _ h9 => h9) rfl dX11_numberNow_67 ?_
            refine lv_goto (tgt := 74) hx hb dX11_numberNow_70 rfl ?_
            have hP9 := hP
            have hD9 := hD
            exact W.iret (v := x0 5) hx hb hr (fun t ht hW => ⟨⟨x0 5, (), rfl, ⟨b37, fun _ => (nr_ok hRr c1 c3 (Int32.not_lt.mp c6) (Int32.not_lt.mp c21) c36).2⟩, x0, hX, (show (x0 2).toInt = (x0 2).toInt from by omega), (show x0 3 = x0 3 from rfl), (show RRd tT nN x0 (numT tT 0 11 sS) from (nr_ok hRr c1 c3 (Int32.not_lt.mp c6) (Int32.not_lt.mp c21) c36).1 ▸ hRr), (show x0 1 = x0 1 from rfl), (show x0 10 = x0 10 from rfl), (show x0 11 = x0 11 from rfl), (show x0 14 = x0 14 from rfl), by rw [ht]; exact hP9, hD9⟩, hS.F ht⟩) hS.2.2 dX11_numberNow_74
          · have b38 : iv 12 2147483647 (x0 5) := iv_ltR (Int32.not_le.mp c36) ivk_11 b35 (by decide) (by decide)
            refine lv_aload_n hx hb dX11_numberNow_54 rfl (lv_at hl 0 rfl) ?_
            refine lv_iconst (v := 2) hx hb dX11_numberNow_55 ic_2 ?_
            obtain ⟨hPc, hDc, hFc, hJn⟩ := cl_a (wc := [(m0, .inr (11, oX11 ra x0))]) (wr := []) hP hD hS hA [0] [] rfl rfl (by decide +kernel)
            refine va_callv (va_runV (As := [.int 2]) (rest := []) ⟨hx, hb, hml, hown, hts⟩ (s11_wrong l dC dI kB kI kJ kZ kC kS s.heap.size m0 ra x0 2 tT nN sS (hX) ((iv_w ivk_2 (by decide) (by decide))) (hRr)) (cwV 1 hts gX11_numberNow_X11_wrong rfl rfl rfl (by decide +kernel) ⟨Nat.le_of_ble_eq_true rfl, Nat.le_of_ble_eq_true rfl⟩) ⟨fun a U g mk q => by obtain ⟨q0, q1, qP, qE, qD⟩ := q; exact ⟨q0, q1, qP, kE_call qE, qD⟩, va_recv hK hP (ci := 11) (q0 := 0) rfl rfl, fun U hU hW => ⟨rfl, by rw [hU], by rw [hU]; exact hPc, kE_warm hW hE, hDc.weaken (fun _ _ _ _ => trivial)⟩⟩ rfl rfl hl.1 rfl (lv_room (Nat.le_of_ble_eq_true rfl)) dX11_numberNow_56 ⟨Nat.le_of_ble_eq_true rfl, Nat.le_of_ble_eq_true rfl⟩) hS (fun q _ h => hFc q h) hFc (fun u t H locs ht hvm w40 hB hz1 hk1 hS => ?_)
            obtain ⟨y41, hq42, hq43, hq44, hq45, hq46, hq47, hq48, hq49, hq50, hP1, hD1⟩ := hB
            try dsimp only at w40
            obtain ⟨hPa, hDa⟩ := hJn (w1 := [(m0, .inr (11, oX11 ra y41))]) hk1 ht hP1 hD1
            clear hP hD hPc hDc hFc hJn hP1 hD1 hk1
            have hP : va_P (dC, dI) vwCl [(m0, .inr (11, oX11 ra y41))] H := hPa
            have hD : va_D A [(m0, .inr (11, oX11 ra y41))] := hDa
            clear hPa hDa
            refine W.widen (k := 0) (n := 0) (Nat.le_of_ble_eq_true rfl) (Nat.le_of_ble_eq_true rfl) ?_
            refine lv_aload_n hx hb dX11_numberNow_59 rfl (lv_at hl 0 rfl) ?_
            refine va_get (D := (dC, dI)) (ci := 11) (v := .int (y41 8)) (C := RX11) (T := TX11) (N := 61) hx hb hts hin11 hown hK hP 0 rfl rfl 22 (Nat.le_of_ble_eq_true rfl) hw_0 (fun _ h9 => h9) rfl dX11_numberNow_60 ?_
            refine lv_if_ne (tgt := 73) hx hb dX11_numberNow_63 rfl (fun _ => ?_) (fun c9 => absurd c9 (iv_ne hq43 ivk_0 (by decide)))
            refine lv_iload_n hx hb dX11_numberNow_73 rfl (lv_at hl 1 rfl) ?_
            have hP9 := hP
            have hD9 := hD
            exact W.iret (v := 0) hx hb hr (fun t ht hW => ⟨⟨0, (), rfl, ⟨(iv_w ivk_0 (by decide) (by decide)), fun hk => (ok_fail ((nr_3 hRr c3 (Int32.not_lt.mp c6) (Or.inr (Int32.not_le.mp c36))).symm ▸ hk)).elim⟩, y41, hq42, (show (y41 2).toInt = (x0 2).toInt from by omega), (show y41 3 = x0 3 from hq45), (show RRd tT nN y41 (numT tT 0 11 sS) from (nr_3 hRr c3 (Int32.not_lt.mp c6) (Or.inr (Int32.not_le.mp c36))) ▸ hq46), (show y41 1 = x0 1 from hq47), (show y41 10 = x0 10 from hq48), (show y41 11 = x0 11 from hq49), (show y41 14 = x0 14 from hq50), by rw [ht]; exact hP9, hD9⟩, hS.F ht⟩) hS.2.2 dX11_numberNow_74
    · refine lv_aload_n hx hb dX11_numberNow_17 rfl (lv_at hl 0 rfl) ?_
      refine lv_iconst (v := 1) hx hb dX11_numberNow_18 ic_1 ?_
      obtain ⟨hPc, hDc, hFc, hJn⟩ := cl_a (wc := [(m0, .inr (11, oX11 ra x0))]) (wr := []) hP hD hS hA [0] [] rfl rfl (by decide +kernel)
      refine va_callv (va_runV (As := [.int 1]) (rest := []) ⟨hx, hb, hml, hown, hts⟩ (s11_wrong l dC dI kB kI kJ kZ kC kS s.heap.size m0 ra x0 1 tT nN sS (hX) ((iv_w ivk_1 (by decide) (by decide))) (hRr)) (cwV 1 hts gX11_numberNow_X11_wrong rfl rfl rfl (by decide +kernel) ⟨Nat.le_of_ble_eq_true rfl, Nat.le_of_ble_eq_true rfl⟩) ⟨fun a U g mk q => by obtain ⟨q0, q1, qP, qE, qD⟩ := q; exact ⟨q0, q1, qP, kE_call qE, qD⟩, va_recv hK hP (ci := 11) (q0 := 0) rfl rfl, fun U hU hW => ⟨rfl, by rw [hU], by rw [hU]; exact hPc, kE_warm hW hE, hDc.weaken (fun _ _ _ _ => trivial)⟩⟩ rfl rfl hl.1 rfl (lv_room (Nat.le_of_ble_eq_true rfl)) dX11_numberNow_19 ⟨Nat.le_of_ble_eq_true rfl, Nat.le_of_ble_eq_true rfl⟩) hS (fun q _ h => hFc q h) hFc (fun u t H locs ht hvm w52 hB hz1 hk1 hS => ?_)
      obtain ⟨y53, hq54, hq55, hq56, hq57, hq58, hq59, hq60, hq61, hq62, hP1, hD1⟩ := hB
      try dsimp only at w52
      obtain ⟨hPa, hDa⟩ := hJn (w1 := [(m0, .inr (11, oX11 ra y53))]) hk1 ht hP1 hD1
      clear hP hD hPc hDc hFc hJn hP1 hD1 hk1
      have hP : va_P (dC, dI) vwCl [(m0, .inr (11, oX11 ra y53))] H := hPa
      have hD : va_D A [(m0, .inr (11, oX11 ra y53))] := hDa
      clear hPa hDa
      refine W.widen (k := 0) (n := 0) (Nat.le_of_ble_eq_true rfl) (Nat.le_of_ble_eq_true rfl) ?_
      refine lv_goto (tgt := 59) hx hb dX11_numberNow_22 rfl ?_
      refine lv_aload_n hx hb dX11_numberNow_59 rfl (lv_at hl 0 rfl) ?_
      refine va_get (D := (dC, dI)) (ci := 11) (v := .int (y53 8)) (C := RX11) (T := TX11) (N := 61) hx hb hts hin11 hown hK hP 0 rfl rfl 22 (Nat.le_of_ble_eq_true rfl) hw_0 (fun _ h9 => h9) rfl dX11_numberNow_60 ?_
      refine lv_if_ne (tgt := 73) hx hb dX11_numberNow_63 rfl (fun _ => ?_) (fun c9 => absurd c9 (iv_ne hq55 ivk_0 (by decide)))
      refine lv_iload_n hx hb dX11_numberNow_73 rfl (lv_at hl 1 rfl) ?_
      have hP9 := hP
      have hD9 := hD
      exact W.iret (v := 0) hx hb hr (fun t ht hW => ⟨⟨0, (), rfl, ⟨(iv_w ivk_0 (by decide) (by decide)), fun hk => (ok_fail ((nr_1 hRr c3).symm ▸ hk)).elim⟩, y53, hq54, (show (y53 2).toInt = (x0 2).toInt from by omega), (show y53 3 = x0 3 from hq57), (show RRd tT nN y53 (numT tT 0 11 sS) from (nr_1 hRr c3) ▸ hq58), (show y53 1 = x0 1 from hq59), (show y53 10 = x0 10 from hq60), (show y53 11 = x0 11 from hq61), (show y53 14 = x0 14 from hq62), by rw [ht]; exact hP9, hD9⟩, hS.F ht⟩) hS.2.2 dX11_numberNow_74
  · have b63 : iv 1 5 (x0 8) := iv_neLo c1 (hX 8 : iv 0 5 (x0 8)) ivk_0 (by decide) (by decide)
    refine lv_iload_n hx hb dX11_numberNow_7 rfl (lv_at hl 1 rfl) ?_
    have hP9 := hP
    have hD9 := hD
    exact W.iret (v := 0) hx hb hr (fun t ht hW => ⟨⟨0, (), rfl, ⟨(iv_w ivk_0 (by decide) (by decide)), fun hk => absurd (ok_num hk) (rr_no hRr c1)⟩, x0, hX, (show (x0 2).toInt = (x0 2).toInt from by omega), (show x0 3 = x0 3 from rfl), (show RRd tT nN x0 (numT tT 0 11 sS) from nr_b hRr c1 ▸ hRr), (show x0 1 = x0 1 from rfl), (show x0 10 = x0 10 from rfl), (show x0 11 = x0 11 from rfl), (show x0 14 = x0 14 from rfl), by rw [ht]; exact hP9, hD9⟩, hS.F ht⟩) hS.2.2 dX11_numberNow_8
def rm_s11_numberNow_0_15 : Room := { frames := 1, cells := 0, slots := 0, locals := 21 }
set_option maxHeartbeats 4000000 in
set_option maxRecDepth 100000 in
theorem s11_numberNow_0_15 (l : Launch) (dC : Nat → ClassId) (dI : Nat → Nat → Nat) (kB kI kJ kZ kC kS : ClassId) (sz : Nat) (m0 : Nat) (ra : Nat → Nat) (x0 : Nat → Int32) (tT : Nat → Int32) (nN : Int32) (sS : StT) (hX : fI lX11 hX11 x0) (hRr : RRd tT nN x0 sS) : Met l yX11_numberNow wsX11_numberNow rm_s11_numberNow_0_15 (va_Pc [.ref m0, .int 0, .int 15] (fun U => U.heap.size = sz ∧ va_P (dC, dI) vwCl [(m0, .inr (11, oX11 ra x0))] U.heap ∧ kE dC dI kB kI kJ kZ kC kS U ∧ va_D (fun _ => True) [(m0, .inr (11, oX11 ra x0))])) (va_Qi (fun (r : Int32) (_ : Unit) => iv 0 15 r ∧ (okT (numT tT 0 15 sS) → r = valS tT sS)) (fun _ t => ∃ (x0' : Nat → Int32), fI lX11 hX11 x0' ∧ ((x0' 2).toInt = (x0 2).toInt) ∧ (x0' 3 = x0 3) ∧ (RRd tT nN x0' (numT tT 0 15 sS)) ∧ (x0' 1 = x0 1) ∧ (x0' 10 = x0 10) ∧ (x0' 11 = x0 11) ∧ (x0' 14 = x0 14) ∧ va_P (dC, dI) vwCl [(m0, .inr (11, oX11 ra x0'))] t.heap ∧ va_D (va_A [(m0, .inr (11, oX11 ra x0))] sz) [(m0, .inr (11, oX11 ra x0'))]) (va_A [(m0, .inr (11, oX11 ra x0))] sz)) 0 0 (va_A [(m0, .inr (11, oX11 ra x0))] sz) := by
  refine Met.ofW (cc := cX11_numberNow) (maxL := 3) (ret := (some .int)) (by decide) rfl ?_
  intro p e s m args0 below meth c s₁ B hml hv
  obtain ⟨hargs, hsz, hP, hE, hD0⟩ := hv
  have hx := B.exec
  have hb := B.bytes
  have hr := B.returns
  have hts := atoms_spec (ws := wsX11_numberNow) B.pre
  have hown : s.vm.findClass RX11 = some m.cls := findClass_of_methodNamed B.named
  have hlocks := B.notSynchronized
  have hK := hE.1
  have hin11 : ∀ w ∈ wsX110, w ∈ wsX11_numberNow := fun _ h9 => List.mem_cons_of_mem _ (List.mem_append_right _ h9)
  have hw_0 := hts (.fieldLink RX11 184 "PathProberModel" "bad" "I") (List.mem_of_getElem? (i := 1) rfl)
  have hw_1 := hts (.fieldLink RX11 161 "PathProberModel" "token" "I") (List.mem_of_getElem? (i := 2) rfl)
  have hw_2 := hts (.fieldLink RX11 181 "PathProberModel" "stops" "I") (List.mem_of_getElem? (i := 3) rfl)
  have hw_3 := hts (.fieldLink RX11 158 "PathProberModel" "begins" "I") (List.mem_of_getElem? (i := 4) rfl)
  have hw_4 := hts (.fieldLink RX11 171 "PathProberModel" "number" "I") (List.mem_of_getElem? (i := 5) rfl)
  subst hsz
  have hD := hD0.self (sz := s.heap.size)
  generalize hAe : va_A [(m0, .inr (11, oX11 ra x0))] s.heap.size = A at hD ⊢
  have hA : ∀ q : Nat, s.heap.size ≤ q → A q := fun q h => by rw [← hAe]; exact Or.inr h
  have hS : va_S A s.heap s.heap [] := va_S.rf
  have hP : va_P (dC, dI) vwCl [(m0, .inr (11, oX11 ra x0))] s.heap := hP
  have hl := lv_entry ([.ref m0, .int 0, .int 15]) (n := 3) (Nat.le_of_ble_eq_true rfl)
  have hla : entryFrame m args0 3 = entryFrame m ([.ref m0, .int 0, .int 15] : List Value).toArray 3 := by rw [hargs]
  rw [hla, lg_entry_eq]
  generalize (lg_sl ([.ref m0, .int 0, .int 15]) ++ List.replicate (3 - (lg_sl ([.ref m0, .int 0, .int 15])).length) Slot.unset).toArray = ls at hl ⊢
  have hl : lv_has ls 3 [(0, .ref m0), (1, .int 0), (2, .int 15)] := hl
  refine lv_aload_n hx hb dX11_numberNow_0 rfl (lv_at hl 0 rfl) ?_
  refine va_get (D := (dC, dI)) (ci := 11) (v := .int (x0 8)) (C := RX11) (T := TX11) (N := 61) hx hb hts hin11 hown hK hP 0 rfl rfl 22 (Nat.le_of_ble_eq_true rfl) hw_0 (fun _ h9 => h9) rfl dX11_numberNow_1 ?_
  refine lv_if_eq (tgt := 9) hx hb dX11_numberNow_4 rfl (fun c1 => ?_) (fun c1 => ?_)
  · have b2 : iv 0 0 (x0 8) := iv_eqL c1 ivk_0
    refine lv_aload_n hx hb dX11_numberNow_9 rfl (lv_at hl 0 rfl) ?_
    refine va_get (D := (dC, dI)) (ci := 11) (v := .int (x0 4)) (C := RX11) (T := TX11) (N := 61) hx hb hts hin11 hown hK hP 0 rfl rfl 18 (Nat.le_of_ble_eq_true rfl) hw_1 (fun _ h9 => h9) rfl dX11_numberNow_10 ?_
    refine lv_iconst (v := 2) hx hb dX11_numberNow_13 ic_2 ?_
    refine lv_icmp_eq (tgt := 25) hx hb dX11_numberNow_14 rfl (fun c3 => ?_) (fun c3 => ?_)
    · have b4 : iv 2 2 (x0 4) := iv_eqL c3 ivk_2
      refine lv_aload_n hx hb dX11_numberNow_25 rfl (lv_at hl 0 rfl) ?_
      refine va_get (D := (dC, dI)) (ci := 11) (v := .int (x0 7)) (C := RX11) (T := TX11) (N := 61) hx hb hts hin11 hown hK hP 0 rfl rfl 21 (Nat.le_of_ble_eq_true rfl) hw_2 (fun _ h9 => h9) rfl dX11_numberNow_26 ?_
      refine lv_aload_n hx hb dX11_numberNow_29 rfl (lv_at hl 0 rfl) ?_
      refine va_get (D := (dC, dI)) (ci := 11) (v := .int (x0 6)) (C := RX11) (T := TX11) (N := 61) hx hb hts hin11 hown hK hP 0 rfl rfl 20 (Nat.le_of_ble_eq_true rfl) hw_3 (fun _ h9 => h9) rfl dX11_numberNow_30 ?_
      refine lv_isub hx hb dX11_numberNow_33 ?_
      have b5 : iv (-700) 700 ((x0 7) - (x0 6)) := iv_sub (hX 7 : iv 0 700 (x0 7)) (hX 6 : iv 0 700 (x0 6)) (by decide) (by decide) (by decide) (by decide)
      refine lv_iconst (v := 2) hx hb dX11_numberNow_34 ic_2 ?_
      refine lv_icmp_gt (tgt := 54) hx hb dX11_numberNow_35 rfl (fun c6 => ?_) (fun c6 => ?_)
      · have b7 : iv 3 700 ((x0 7) - (x0 6)) := iv_ltR c6 ivk_2 b5 (by decide) (by decide)
        refine lv_aload_n hx hb dX11_numberNow_54 rfl (lv_at hl 0 rfl) ?_
        refine lv_iconst (v := 2) hx hb dX11_numberNow_55 ic_2 ?_
        obtain ⟨hPc, hDc, hFc, hJn⟩ := cl_a (wc := [(m0, .inr (11, oX11 ra x0))]) (wr := []) hP hD hS hA [0] [] rfl rfl (by decide +kernel)
        refine va_callv (va_runV (As := [.int 2]) (rest := []) ⟨hx, hb, hml, hown, hts⟩ (s11_wrong l dC dI kB kI kJ kZ kC kS s.heap.size m0 ra x0 2 tT nN sS (hX) ((iv_w ivk_2 (by decide) (by decide))) (hRr)) (cwV 1 hts gX11_numberNow_X11_wrong rfl rfl rfl (by decide +kernel) ⟨Nat.le_of_ble_eq_true rfl, Nat.le_of_ble_eq_true rfl⟩) ⟨fun a U g mk q => by obtain ⟨q0, q1, qP, qE, qD⟩ := q; exact ⟨q0, q1, qP, kE_call qE, qD⟩, va_recv hK hP (ci := 11) (q0 := 0) rfl rfl, fun U hU hW => ⟨rfl, by rw [hU], by rw [hU]; exact hPc, kE_warm hW hE, hDc.weaken (fun _ _ _ _ => trivial)⟩⟩ rfl rfl hl.1 rfl (lv_room (Nat.le_of_ble_eq_true rfl)) dX11_numberNow_56 ⟨Nat.le_of_ble_eq_true rfl, Nat.le_of_ble_eq_true rfl⟩) hS (fun q _ h => hFc q h) hFc (fun u t H locs ht hvm w9 hB hz1 hk1 hS => ?_)
        obtain ⟨y10, hq11, hq12, hq13, hq14, hq15, hq16, hq17, hq18, hq19, hP1, hD1⟩ := hB
        try dsimp only at w9
        obtain ⟨hPa, hDa⟩ := hJn (w1 := [(m0, .inr (11, oX11 ra y10))]) hk1 ht hP1 hD1
        clear hP hD hPc hDc hFc hJn hP1 hD1 hk1
        have hP : va_P (dC, dI) vwCl [(m0, .inr (11, oX11 ra y10))] H := hPa
        have hD : va_D A [(m0, .inr (11, oX11 ra y10))] := hDa
        clear hPa hDa
        refine W.widen (k := 0) (n := 0) (Nat.le_of_ble_eq_true rfl) (Nat.le_of_ble_eq_true rfl) ?_
        refine lv_aload_n hx hb dX11_numberNow_59 rfl (lv_at hl 0 rfl) ?_
        refine va_get (D := (dC, dI)) (ci := 11) (v := .int (y10 8)) (C := RX11) (T := TX11) (N := 61) hx hb hts hin11 hown hK hP 0 rfl rfl 22 (Nat.le_of_ble_eq_true rfl) hw_0 (fun _ h9 => h9) rfl dX11_numberNow_60 ?_
        refine lv_if_ne (tgt := 73) hx hb dX11_numberNow_63 rfl (fun _ => ?_) (fun c9 => absurd c9 (iv_ne hq12 ivk_0 (by decide)))
        refine lv_iload_n hx hb dX11_numberNow_73 rfl (lv_at hl 1 rfl) ?_
        have hP9 := hP
        have hD9 := hD
        exact W.iret (v := 0) hx hb hr (fun t ht hW => ⟨⟨0, (), rfl, ⟨(iv_w ivk_0 (by decide) (by decide)), fun hk => (ok_fail ((nr_2 hRr c3 c6).symm ▸ hk)).elim⟩, y10, hq11, (show (y10 2).toInt = (x0 2).toInt from by omega), (show y10 3 = x0 3 from hq14), (show RRd tT nN y10 (numT tT 0 15 sS) from (nr_2 hRr c3 c6) ▸ hq15), (show y10 1 = x0 1 from hq16), (show y10 10 = x0 10 from hq17), (show y10 11 = x0 11 from hq18), (show y10 14 = x0 14 from hq19), by rw [ht]; exact hP9, hD9⟩, hS.F ht⟩) hS.2.2 dX11_numberNow_74
      · have b20 : iv (-700) 2 ((x0 7) - (x0 6)) := iv_leL (Int32.not_lt.mp c6) b5 ivk_2 (by decide) (by decide)
        refine lv_aload_n hx hb dX11_numberNow_38 rfl (lv_at hl 0 rfl) ?_
        refine va_get (D := (dC, dI)) (ci := 11) (v := .int (x0 5)) (C := RX11) (T := TX11) (N := 61) hx hb hts hin11 hown hK hP 0 rfl rfl 19 (Nat.le_of_ble_eq_true rfl) hw_4 (fun _ h9 => h9) rfl dX11_numberNow_39 ?_
        refine lv_iload_n hx hb dX11_numberNow_42 rfl (lv_at hl 1 rfl) ?_
        refine lv_icmp_lt (tgt := 54) hx hb dX11_numberNow_43 rfl (fun c21 => ?_) (fun c21 => ?_)
        · have b22 : iv (-2147483648) (-1) (x0 5) := iv_ltL c21 (hX 5 : iv (-2147483648) 2147483647 (x0 5)) ivk_0 (by decide) (by decide)
          refine lv_aload_n hx hb dX11_numberNow_54 rfl (lv_at hl 0 rfl) ?_
          refine lv_iconst (v := 2) hx hb dX11_numberNow_55 ic_2 ?_
          obtain ⟨hPc, hDc, hFc, hJn⟩ := cl_a (wc := [(m0, .inr (11, oX11 ra x0))]) (wr := []) hP hD hS hA [0] [] rfl rfl (by decide +kernel)
          refine va_callv (va_runV (As := [.int 2]) (rest := []) ⟨hx, hb, hml, hown, hts⟩ (s11_wrong l dC dI kB kI kJ kZ kC kS s.heap.size m0 ra x0 2 tT nN sS (hX) ((iv_w ivk_2 (by decide) (by decide))) (hRr)) (cwV 1 hts gX11_numberNow_X11_wrong rfl rfl rfl (by decide +kernel) ⟨Nat.le_of_ble_eq_true rfl, Nat.le_of_ble_eq_true rfl⟩) ⟨fun a U g mk q => by obtain ⟨q0, q1, qP, qE, qD⟩ := q; exact ⟨q0, q1, qP, kE_call qE, qD⟩, va_recv hK hP (ci := 11) (q0 := 0) rfl rfl, fun U hU hW => ⟨rfl, by rw [hU], by rw [hU]; exact hPc, kE_warm hW hE, hDc.weaken (fun _ _ _ _ => trivial)⟩⟩ rfl rfl hl.1 rfl (lv_room (Nat.le_of_ble_eq_true rfl)) dX11_numberNow_56 ⟨Nat.le_of_ble_eq_true rfl, Nat.le_of_ble_eq_true rfl⟩) hS (fun q _ h => hFc q h) hFc (fun u t H locs ht hvm w24 hB hz1 hk1 hS => ?_)
          obtain ⟨y25, hq26, hq27, hq28, hq29, hq30, hq31, hq32, hq33, hq34, hP1, hD1⟩ := hB
          try dsimp only at w24
          obtain ⟨hPa, hDa⟩ := hJn (w1 := [(m0, .inr (11, oX11 ra y25))]) hk1 ht hP1 hD1
          clear hP hD hPc hDc hFc hJn hP1 hD1 hk1
          have hP : va_P (dC, dI) vwCl [(m0, .inr (11, oX11 ra y25))] H := hPa
          have hD : va_D A [(m0, .inr (11, oX11 ra y25))] := hDa
          clear hPa hDa
          refine W.widen (k := 0) (n := 0) (Nat.le_of_ble_eq_true rfl) (Nat.le_of_ble_eq_true rfl) ?_
          refine lv_aload_n hx hb dX11_numberNow_59 rfl (lv_at hl 0 rfl) ?_
          refine va_get (D := (dC, dI)) (ci := 11) (v := .int (y25 8)) (C := RX11) (T := TX11) (N := 61) hx hb hts hin11 hown hK hP 0 rfl rfl 22 (Nat.le_of_ble_eq_true rfl) hw_0 (fun _ h9 => h9) rfl dX11_numberNow_60 ?_
          refine lv_if_ne (tgt := 73) hx hb dX11_numberNow_63 rfl (fun _ => ?_) (fun c9 => absurd c9 (iv_ne hq27 ivk_0 (by decide)))
          refine lv_iload_n hx hb dX11_numberNow_73 rfl (lv_at hl 1 rfl) ?_
          have hP9 := hP
          have hD9 := hD
          exact W.iret (v := 0) hx hb hr (fun t ht hW => ⟨⟨0, (), rfl, ⟨(iv_w ivk_0 (by decide) (by decide)), fun hk => (ok_fail ((nr_3 hRr c3 (Int32.not_lt.mp c6) (Or.inl c21)).symm ▸ hk)).elim⟩, y25, hq26, (show (y25 2).toInt = (x0 2).toInt from by omega), (show y25 3 = x0 3 from hq29), (show RRd tT nN y25 (numT tT 0 15 sS) from (nr_3 hRr c3 (Int32.not_lt.mp c6) (Or.inl c21)) ▸ hq30), (show y25 1 = x0 1 from hq31), (show y25 10 = x0 10 from hq32), (show y25 11 = x0 11 from hq33), (show y25 14 = x0 14 from hq34), by rw [ht]; exact hP9, hD9⟩, hS.F ht⟩) hS.2.2 dX11_numberNow_74
        · have b35 : iv 0 2147483647 (x0 5) := iv_leR (Int32.not_lt.mp c21) ivk_0 (hX 5 : iv (-2147483648) 2147483647 (x0 5)) (by decide) (by decide)
          refine lv_aload_n hx hb dX11_numberNow_46 rfl (lv_at hl 0 rfl) ?_
          refine va_get (D := (dC, dI)) (ci := 11) (v := .int (x0 5)) (C := RX11) (T := TX11) (N := 61) hx hb hts hin11 hown hK hP 0 rfl rfl 19 (Nat.le_of_ble_eq_true rfl) hw_4 (fun _ h9 => h9) rfl dX11_numberNow_47 ?_
          refine lv_iload_n hx hb dX11_numberNow_50 rfl (lv_at hl 2 rfl) ?_
          refine lv_icmp_le (tgt := 59) hx hb dX11_numberNow_51 rfl (fun c36 => ?_) (fun c36 => ?_)
          · have b37 : iv 0 15 (x0 5) := iv_leL c36 b35 ivk_15 (by decide) (by decide)
            refine lv_aload_n hx hb dX11_numberNow_59 rfl (lv_at hl 0 rfl) ?_
            refine va_get (D := (dC, dI)) (ci := 11) (v := .int (x0 8)) (C := RX11) (T := TX11) (N := 61) hx hb hts hin11 hown hK hP 0 rfl rfl 22 (Nat.le_of_ble_eq_true rfl) hw_0 (fun _ h9 => h9) rfl dX11_numberNow_60 ?_
            refine lv_if_ne (tgt := 73) hx hb dX11_numberNow_63 rfl (fun c9 => absurd (c1) c9) (fun _ => ?_)
            refine lv_aload_n hx hb dX11_numberNow_66 rfl (lv_at hl 0 rfl) ?_
            refine va_get (D := (dC, dI)) (ci := 11) (v := .int (x0 5)) (C := RX11) (T := TX11) (N := 61) hx hb hts hin11 hown hK hP 0 rfl rfl 19 (Nat.le_of_ble_eq_true rfl) hw_4 (fun _ h9 => h9) rfl dX11_numberNow_67 ?_
            refine lv_goto (tgt := 74) hx hb dX11_numberNow_70 rfl ?_
            have hP9 := hP
            have hD9 := hD
            exact W.iret (v := x0 5) hx hb hr (fun t ht hW => ⟨⟨x0 5, (), rfl, ⟨b37, fun _ => (nr_ok hRr c1 c3 (Int32.not_lt.mp c6) (Int32.not_lt.mp c21) c36).2⟩, x0, hX, (show (x0 2).toInt = (x0 2).toInt from by omega), (show x0 3 = x0 3 from rfl), (show RRd tT nN x0 (numT tT 0 15 sS) from (nr_ok hRr c1 c3 (Int32.not_lt.mp c6) (Int32.not_lt.mp c21) c36).1 ▸ hRr), (show x0 1 = x0 1 from rfl), (show x0 10 = x0 10 from rfl), (show x0 11 = x0 11 from rfl), (show x0 14 = x0 14 from rfl), by rw [ht]; exact hP9, hD9⟩, hS.F ht⟩) hS.2.2 dX11_numberNow_74
          · have b38 : iv 16 2147483647 (x0 5) := iv_ltR (Int32.not_le.mp c36) ivk_15 b35 (by decide) (by decide)
            refine lv_aload_n hx hb dX11_numberNow_54 rfl (lv_at hl 0 rfl) ?_
            refine lv_iconst (v := 2) hx hb dX11_numberNow_55 ic_2 ?_
            obtain ⟨hPc, hDc, hFc, hJn⟩ := cl_a (wc := [(m0, .inr (11, oX11 ra x0))]) (wr := []) hP hD hS hA [0] [] rfl rfl (by decide +kernel)
            refine va_callv (va_runV (As := [.int 2]) (rest := []) ⟨hx, hb, hml, hown, hts⟩ (s11_wrong l dC dI kB kI kJ kZ kC kS s.heap.size m0 ra x0 2 tT nN sS (hX) ((iv_w ivk_2 (by decide) (by decide))) (hRr)) (cwV 1 hts gX11_numberNow_X11_wrong rfl rfl rfl (by decide +kernel) ⟨Nat.le_of_ble_eq_true rfl, Nat.le_of_ble_eq_true rfl⟩) ⟨fun a U g mk q => by obtain ⟨q0, q1, qP, qE, qD⟩ := q; exact ⟨q0, q1, qP, kE_call qE, qD⟩, va_recv hK hP (ci := 11) (q0 := 0) rfl rfl, fun U hU hW => ⟨rfl, by rw [hU], by rw [hU]; exact hPc, kE_warm hW hE, hDc.weaken (fun _ _ _ _ => trivial)⟩⟩ rfl rfl hl.1 rfl (lv_room (Nat.le_of_ble_eq_true rfl)) dX11_numberNow_56 ⟨Nat.le_of_ble_eq_true rfl, Nat.le_of_ble_eq_true rfl⟩) hS (fun q _ h => hFc q h) hFc (fun u t H locs ht hvm w40 hB hz1 hk1 hS => ?_)
            obtain ⟨y41, hq42, hq43, hq44, hq45, hq46, hq47, hq48, hq49, hq50, hP1, hD1⟩ := hB
            try dsimp only at w40
            obtain ⟨hPa, hDa⟩ := hJn (w1 := [(m0, .inr (11, oX11 ra y41))]) hk1 ht hP1 hD1
            clear hP hD hPc hDc hFc hJn hP1 hD1 hk1
            have hP : va_P (dC, dI) vwCl [(m0, .inr (11, oX11 ra y41))] H := hPa
            have hD : va_D A [(m0, .inr (11, oX11 ra y41))] := hDa
            clear hPa hDa
            refine W.widen (k := 0) (n := 0) (Nat.le_of_ble_eq_true rfl) (Nat.le_of_ble_eq_true rfl) ?_
            refine lv_aload_n hx hb dX11_numberNow_59 rfl (lv_at hl 0 rfl) ?_
            refine va_get (D := (dC, dI)) (ci := 11) (v := .int (y41 8)) (C := RX11) (T := TX11) (N := 61) hx hb hts hin11 hown hK hP 0 rfl rfl 22 (Nat.le_of_ble_eq_true rfl) hw_0 (fun _ h9 => h9) rfl dX11_numberNow_60 ?_
            refine lv_if_ne (tgt := 73) hx hb dX11_numberNow_63 rfl (fun _ => ?_) (fun c9 => absurd c9 (iv_ne hq43 ivk_0 (by decide)))
            refine lv_iload_n hx hb dX11_numberNow_73 rfl (lv_at hl 1 rfl) ?_
            have hP9 := hP
            have hD9 := hD
            exact W.iret (v := 0) hx hb hr (fun t ht hW => ⟨⟨0, (), rfl, ⟨(iv_w ivk_0 (by decide) (by decide)), fun hk => (ok_fail ((nr_3 hRr c3 (Int32.not_lt.mp c6) (Or.inr (Int32.not_le.mp c36))).symm ▸ hk)).elim⟩, y41, hq42, (show (y41 2).toInt = (x0 2).toInt from by omega), (show y41 3 = x0 3 from hq45), (show RRd tT nN y41 (numT tT 0 15 sS) from (nr_3 hRr c3 (Int32.not_lt.mp c6) (Or.inr (Int32.not_le.mp c36))) ▸ hq46), (show y41 1 = x0 1 from hq47), (show y41 10 = x0 10 from hq48), (show y41 11 = x0 11 from hq49), (show y41 14 = x0 14 from hq50), by rw [ht]; exact hP9, hD9⟩, hS.F ht⟩) hS.2.2 dX11_numberNow_74
    · refine lv_aload_n hx hb dX11_numberNow_17 rfl (lv_at hl 0 rfl) ?_
      refine lv_iconst (v := 1) hx hb dX11_numberNow_18 ic_1 ?_
      obtain ⟨hPc, hDc, hFc, hJn⟩ := cl_a (wc := [(m0, .inr (11, oX11 ra x0))]) (wr := []) hP hD hS hA [0] [] rfl rfl (by decide +kernel)
      refine va_callv (va_runV (As := [.int 1]) (rest := []) ⟨hx, hb, hml, hown, hts⟩ (s11_wrong l dC dI kB kI kJ kZ kC kS s.heap.size m0 ra x0 1 tT nN sS (hX) ((iv_w ivk_1 (by decide) (by decide))) (hRr)) (cwV 1 hts gX11_numberNow_X11_wrong rfl rfl rfl (by decide +kernel) ⟨Nat.le_of_ble_eq_true rfl, Nat.le_of_ble_eq_true rfl⟩) ⟨fun a U g mk q => by obtain ⟨q0, q1, qP, qE, qD⟩ := q; exact ⟨q0, q1, qP, kE_call qE, qD⟩, va_recv hK hP (ci := 11) (q0 := 0) rfl rfl, fun U hU hW => ⟨rfl, by rw [hU], by rw [hU]; exact hPc, kE_warm hW hE, hDc.weaken (fun _ _ _ _ => trivial)⟩⟩ rfl rfl hl.1 rfl (lv_room (Nat.le_of_ble_eq_true rfl)) dX11_numberNow_19 ⟨Nat.le_of_ble_eq_true rfl, Nat.le_of_ble_eq_true rfl⟩) hS (fun q _ h => hFc q h) hFc (fun u t H locs ht hvm w52 hB hz1 hk1 hS => ?_)
      obtain ⟨y53, hq54, hq55, hq56, hq57, hq58, hq59, hq60, hq61, hq62, hP1, hD1⟩ := hB
      try dsimp only at w52
      obtain ⟨hPa, hDa⟩ := hJn (w1 := [(m0, .inr (11, oX11 ra y53))]) hk1 ht hP1 hD1
      clear hP hD hPc hDc hFc hJn hP1 hD1 hk1
      have hP : va_P (dC, dI) vwCl [(m0, .inr (11, oX11 ra y53))] H := hPa
      have hD : va_D A [(m0, .inr (11, oX11 ra y53))] := hDa
      clear hPa hDa
      refine W.widen (k := 0) (n := 0) (Nat.le_of_ble_eq_true rfl) (Nat.le_of_ble_eq_true rfl) ?_
      refine lv_goto (tgt := 59) hx hb dX11_numberNow_22 rfl ?_
      refine lv_aload_n hx hb dX11_numberNow_59 rfl (lv_at hl 0 rfl) ?_
      refine va_get (D := (dC, dI)) (ci := 11) (v := .int (y53 8)) (C := RX11) (T := TX11) (N := 61) hx hb hts hin11 hown hK hP 0 rfl rfl 22 (Nat.le_of_ble_eq_true rfl) hw_0 (fun _ h9 => h9) rfl dX11_numberNow_60 ?_
      refine lv_if_ne (tgt := 73) hx hb dX11_numberNow_63 rfl (fun _ => ?_) (fun c9 => absurd c9 (iv_ne hq55 ivk_0 (by decide)))
      refine lv_iload_n hx hb dX11_numberNow_73 rfl (lv_at hl 1 rfl) ?_
      have hP9 := hP
      have hD9 := hD
      exact W.iret (v := 0) hx hb hr (fun t ht hW => ⟨⟨0, (), rfl, ⟨(iv_w ivk_0 (by decide) (by decide)), fun hk => (ok_fail ((nr_1 hRr c3).symm ▸ hk)).elim⟩, y53, hq54, (show (y53 2).toInt = (x0 2).toInt from by omega), (show y53 3 = x0 3 from hq57), (show RRd tT nN y53 (numT tT 0 15 sS) from (nr_1 hRr c3) ▸ hq58), (show y53 1 = x0 1 from hq59), (show y53 10 = x0 10 from hq60), (show y53 11 = x0 11 from hq61), (show y53 14 = x0 14 from hq62), by rw [ht]; exact hP9, hD9⟩, hS.F ht⟩) hS.2.2 dX11_numberNow_74
  · have b63 : iv 1 5 (x0 8) := iv_neLo c1 (hX 8 : iv 0 5 (x0 8)) ivk_0 (by decide) (by decide)
    refine lv_iload_n hx hb dX11_numberNow_7 rfl (lv_at hl 1 rfl) ?_
    have hP9 := hP
    have hD9 := hD
    exact W.iret (v := 0) hx hb hr (fun t ht hW => ⟨⟨0, (), rfl, ⟨(iv_w ivk_0 (by decide) (by decide)), fun hk => absurd (ok_num hk) (rr_no hRr c1)⟩, x0, hX, (show (x0 2).toInt = (x0 2).toInt from by omega), (show x0 3 = x0 3 from rfl), (show RRd tT nN x0 (numT tT 0 15 sS) from nr_b hRr c1 ▸ hRr), (show x0 1 = x0 1 from rfl), (show x0 10 = x0 10 from rfl), (show x0 11 = x0 11 from rfl), (show x0 14 = x0 14 from rfl), by rw [ht]; exact hP9, hD9⟩, hS.F ht⟩) hS.2.2 dX11_numberNow_8
def rm_s11_numberNow_1_60 : Room := { frames := 1, cells := 0, slots := 0, locals := 21 }
set_option maxHeartbeats 4000000 in
set_option maxRecDepth 100000 in
theorem s11_numberNow_1_60 (l : Launch) (dC : Nat → ClassId) (dI : Nat → Nat → Nat) (kB kI kJ kZ kC kS : ClassId) (sz : Nat) (m0 : Nat) (ra : Nat → Nat) (x0 : Nat → Int32) (tT : Nat → Int32) (nN : Int32) (sS : StT) (hX : fI lX11 hX11 x0) (hRr : RRd tT nN x0 sS) : Met l yX11_numberNow wsX11_numberNow rm_s11_numberNow_1_60 (va_Pc [.ref m0, .int 1, .int 60] (fun U => U.heap.size = sz ∧ va_P (dC, dI) vwCl [(m0, .inr (11, oX11 ra x0))] U.heap ∧ kE dC dI kB kI kJ kZ kC kS U ∧ va_D (fun _ => True) [(m0, .inr (11, oX11 ra x0))])) (va_Qi (fun (r : Int32) (_ : Unit) => iv 1 60 r ∧ (okT (numT tT 1 60 sS) → r = valS tT sS)) (fun _ t => ∃ (x0' : Nat → Int32), fI lX11 hX11 x0' ∧ ((x0' 2).toInt = (x0 2).toInt) ∧ (x0' 3 = x0 3) ∧ (RRd tT nN x0' (numT tT 1 60 sS)) ∧ (x0' 1 = x0 1) ∧ (x0' 10 = x0 10) ∧ (x0' 11 = x0 11) ∧ (x0' 14 = x0 14) ∧ va_P (dC, dI) vwCl [(m0, .inr (11, oX11 ra x0'))] t.heap ∧ va_D (va_A [(m0, .inr (11, oX11 ra x0))] sz) [(m0, .inr (11, oX11 ra x0'))]) (va_A [(m0, .inr (11, oX11 ra x0))] sz)) 0 0 (va_A [(m0, .inr (11, oX11 ra x0))] sz) := by
  refine Met.ofW (cc := cX11_numberNow) (maxL := 3) (ret := (some .int)) (by decide) rfl ?_
  intro p e s m args0 below meth c s₁ B hml hv
  obtain ⟨hargs, hsz, hP, hE, hD0⟩ := hv
  have hx := B.exec
  have hb := B.bytes
  have hr := B.returns
  have hts := atoms_spec (ws := wsX11_numberNow) B.pre
  have hown : s.vm.findClass RX11 = some m.cls := findClass_of_methodNamed B.named
  have hlocks := B.notSynchronized
  have hK := hE.1
  have hin11 : ∀ w ∈ wsX110, w ∈ wsX11_numberNow := fun _ h9 => List.mem_cons_of_mem _ (List.mem_append_right _ h9)
  have hw_0 := hts (.fieldLink RX11 184 "PathProberModel" "bad" "I") (List.mem_of_getElem? (i := 1) rfl)
  have hw_1 := hts (.fieldLink RX11 161 "PathProberModel" "token" "I") (List.mem_of_getElem? (i := 2) rfl)
  have hw_2 := hts (.fieldLink RX11 181 "PathProberModel" "stops" "I") (List.mem_of_getElem? (i := 3) rfl)
  have hw_3 := hts (.fieldLink RX11 158 "PathProberModel" "begins" "I") (List.mem_of_getElem? (i := 4) rfl)
  have hw_4 := hts (.fieldLink RX11 171 "PathProberModel" "number" "I") (List.mem_of_getElem? (i := 5) rfl)
  subst hsz
  have hD := hD0.self (sz := s.heap.size)
  generalize hAe : va_A [(m0, .inr (11, oX11 ra x0))] s.heap.size = A at hD ⊢
  have hA : ∀ q : Nat, s.heap.size ≤ q → A q := fun q h => by rw [← hAe]; exact Or.inr h
  have hS : va_S A s.heap s.heap [] := va_S.rf
  have hP : va_P (dC, dI) vwCl [(m0, .inr (11, oX11 ra x0))] s.heap := hP
  have hl := lv_entry ([.ref m0, .int 1, .int 60]) (n := 3) (Nat.le_of_ble_eq_true rfl)
  have hla : entryFrame m args0 3 = entryFrame m ([.ref m0, .int 1, .int 60] : List Value).toArray 3 := by rw [hargs]
  rw [hla, lg_entry_eq]
  generalize (lg_sl ([.ref m0, .int 1, .int 60]) ++ List.replicate (3 - (lg_sl ([.ref m0, .int 1, .int 60])).length) Slot.unset).toArray = ls at hl ⊢
  have hl : lv_has ls 3 [(0, .ref m0), (1, .int 1), (2, .int 60)] := hl
  refine lv_aload_n hx hb dX11_numberNow_0 rfl (lv_at hl 0 rfl) ?_
  refine va_get (D := (dC, dI)) (ci := 11) (v := .int (x0 8)) (C := RX11) (T := TX11) (N := 61) hx hb hts hin11 hown hK hP 0 rfl rfl 22 (Nat.le_of_ble_eq_true rfl) hw_0 (fun _ h9 => h9) rfl dX11_numberNow_1 ?_
  refine lv_if_eq (tgt := 9) hx hb dX11_numberNow_4 rfl (fun c1 => ?_) (fun c1 => ?_)
  · have b2 : iv 0 0 (x0 8) := iv_eqL c1 ivk_0
    refine lv_aload_n hx hb dX11_numberNow_9 rfl (lv_at hl 0 rfl) ?_
    refine va_get (D := (dC, dI)) (ci := 11) (v := .int (x0 4)) (C := RX11) (T := TX11) (N := 61) hx hb hts hin11 hown hK hP 0 rfl rfl 18 (Nat.le_of_ble_eq_true rfl) hw_1 (fun _ h9 => h9) rfl dX11_numberNow_10 ?_
    refine lv_iconst (v := 2) hx hb dX11_numberNow_13 ic_2 ?_
    refine lv_icmp_eq (tgt := 25) hx hb dX11_numberNow_14 rfl (fun c3 => ?_) (fun c3 => ?_)
    · have b4 : iv 2 2 (x0 4) := iv_eqL c3 ivk_2
      refine lv_aload_n hx hb dX11_numberNow_25 rfl (lv_at hl 0 rfl) ?_
      refine va_get (D := (dC, dI)) (ci := 11) (v := .int (x0 7)) (C := RX11) (T := TX11) (N := 61) hx hb hts hin11 hown hK hP 0 rfl rfl 21 (Nat.le_of_ble_eq_true rfl) hw_2 (fun _ h9 => h9) rfl dX11_numberNow_26 ?_
      refine lv_aload_n hx hb dX11_numberNow_29 rfl (lv_at hl 0 rfl) ?_
      refine va_get (D := (dC, dI)) (ci := 11) (v := .int (x0 6)) (C := RX11) (T := TX11) (N := 61) hx hb hts hin11 hown hK hP 0 rfl rfl 20 (Nat.le_of_ble_eq_true rfl) hw_3 (fun _ h9 => h9) rfl dX11_numberNow_30 ?_
      refine lv_isub hx hb dX11_numberNow_33 ?_
      have b5 : iv (-700) 700 ((x0 7) - (x0 6)) := iv_sub (hX 7 : iv 0 700 (x0 7)) (hX 6 : iv 0 700 (x0 6)) (by decide) (by decide) (by decide) (by decide)
      refine lv_iconst (v := 2) hx hb dX11_numberNow_34 ic_2 ?_
      refine lv_icmp_gt (tgt := 54) hx hb dX11_numberNow_35 rfl (fun c6 => ?_) (fun c6 => ?_)
      · have b7 : iv 3 700 ((x0 7) - (x0 6)) := iv_ltR c6 ivk_2 b5 (by decide) (by decide)
        refine lv_aload_n hx hb dX11_numberNow_54 rfl (lv_at hl 0 rfl) ?_
        refine lv_iconst (v := 2) hx hb dX11_numberNow_55 ic_2 ?_
        obtain ⟨hPc, hDc, hFc, hJn⟩ := cl_a (wc := [(m0, .inr (11, oX11 ra x0))]) (wr := []) hP hD hS hA [0] [] rfl rfl (by decide +kernel)
        refine va_callv (va_runV (As := [.int 2]) (rest := []) ⟨hx, hb, hml, hown, hts⟩ (s11_wrong l dC dI kB kI kJ kZ kC kS s.heap.size m0 ra x0 2 tT nN sS (hX) ((iv_w ivk_2 (by decide) (by decide))) (hRr)) (cwV 1 hts gX11_numberNow_X11_wrong rfl rfl rfl (by decide +kernel) ⟨Nat.le_of_ble_eq_true rfl, Nat.le_of_ble_eq_true rfl⟩) ⟨fun a U g mk q => by obtain ⟨q0, q1, qP, qE, qD⟩ := q; exact ⟨q0, q1, qP, kE_call qE, qD⟩, va_recv hK hP (ci := 11) (q0 := 0) rfl rfl, fun U hU hW => ⟨rfl, by rw [hU], by rw [hU]; exact hPc, kE_warm hW hE, hDc.weaken (fun _ _ _ _ => trivial)⟩⟩ rfl rfl hl.1 rfl (lv_room (Nat.le_of_ble_eq_true rfl)) dX11_numberNow_56 ⟨Nat.le_of_ble_eq_true rfl, Nat.le_of_ble_eq_true rfl⟩) hS (fun q _ h => hFc q h) hFc (fun u t H locs ht hvm w9 hB hz1 hk1 hS => ?_)
        obtain ⟨y10, hq11, hq12, hq13, hq14, hq15, hq16, hq17, hq18, hq19, hP1, hD1⟩ := hB
        try dsimp only at w9
        obtain ⟨hPa, hDa⟩ := hJn (w1 := [(m0, .inr (11, oX11 ra y10))]) hk1 ht hP1 hD1
        clear hP hD hPc hDc hFc hJn hP1 hD1 hk1
        have hP : va_P (dC, dI) vwCl [(m0, .inr (11, oX11 ra y10))] H := hPa
        have hD : va_D A [(m0, .inr (11, oX11 ra y10))] := hDa
        clear hPa hDa
        refine W.widen (k := 0) (n := 0) (Nat.le_of_ble_eq_true rfl) (Nat.le_of_ble_eq_true rfl) ?_
        refine lv_aload_n hx hb dX11_numberNow_59 rfl (lv_at hl 0 rfl) ?_
        refine va_get (D := (dC, dI)) (ci := 11) (v := .int (y10 8)) (C := RX11) (T := TX11) (N := 61) hx hb hts hin11 hown hK hP 0 rfl rfl 22 (Nat.le_of_ble_eq_true rfl) hw_0 (fun _ h9 => h9) rfl dX11_numberNow_60 ?_
        refine lv_if_ne (tgt := 73) hx hb dX11_numberNow_63 rfl (fun _ => ?_) (fun c9 => absurd c9 (iv_ne hq12 ivk_0 (by decide)))
        refine lv_iload_n hx hb dX11_numberNow_73 rfl (lv_at hl 1 rfl) ?_
        have hP9 := hP
        have hD9 := hD
        exact W.iret (v := 1) hx hb hr (fun t ht hW => ⟨⟨1, (), rfl, ⟨(iv_w ivk_1 (by decide) (by decide)), fun hk => (ok_fail ((nr_2 hRr c3 c6).symm ▸ hk)).elim⟩, y10, hq11, (show (y10 2).toInt = (x0 2).toInt from by omega), (show y10 3 = x0 3 from hq14), (show RRd tT nN y10 (numT tT 1 60 sS) from (nr_2 hRr c3 c6) ▸ hq15), (show y10 1 = x0 1 from hq16), (show y10 10 = x0 10 from hq17), (show y10 11 = x0 11 from hq18), (show y10 14 = x0 14 from hq19), by rw [ht]; exact hP9, hD9⟩, hS.F ht⟩) hS.2.2 dX11_numberNow_74
      · have b20 : iv (-700) 2 ((x0 7) - (x0 6)) := iv_leL (Int32.not_lt.mp c6) b5 ivk_2 (by decide) (by decide)
        refine lv_aload_n hx hb dX11_numberNow_38 rfl (lv_at hl 0 rfl) ?_
        refine va_get (D := (dC, dI)) (ci := 11) (v := .int (x0 5)) (C := RX11) (T := TX11) (N := 61) hx hb hts hin11 hown hK hP 0 rfl rfl 19 (Nat.le_of_ble_eq_true rfl) hw_4 (fun _ h9 => h9) rfl dX11_numberNow_39 ?_
        refine lv_iload_n hx hb dX11_numberNow_42 rfl (lv_at hl 1 rfl) ?_
        refine lv_icmp_lt (tgt := 54) hx hb dX11_numberNow_43 rfl (fun c21 => ?_) (fun c21 => ?_)
        · have b22 : iv (-2147483648) 0 (x0 5) := iv_ltL c21 (hX 5 : iv (-2147483648) 2147483647 (x0 5)) ivk_1 (by decide) (by decide)
          refine lv_aload_n hx hb dX11_numberNow_54 rfl (lv_at hl 0 rfl) ?_
          refine lv_iconst (v := 2) hx hb dX11_numberNow_55 ic_2 ?_
          obtain ⟨hPc, hDc, hFc, hJn⟩ := cl_a (wc := [(m0, .inr (11, oX11 ra x0))]) (wr := []) hP hD hS hA [0] [] rfl rfl (by decide +kernel)
          refine va_callv (va_runV (As := [.int 2]) (rest := []) ⟨hx, hb, hml, hown, hts⟩ (s11_wrong l dC dI kB kI kJ kZ kC kS s.heap.size m0 ra x0 2 tT nN sS (hX) ((iv_w ivk_2 (by decide) (by decide))) (hRr)) (cwV 1 hts gX11_numberNow_X11_wrong rfl rfl rfl (by decide +kernel) ⟨Nat.le_of_ble_eq_true rfl, Nat.le_of_ble_eq_true rfl⟩) ⟨fun a U g mk q => by obtain ⟨q0, q1, qP, qE, qD⟩ := q; exact ⟨q0, q1, qP, kE_call qE, qD⟩, va_recv hK hP (ci := 11) (q0 := 0) rfl rfl, fun U hU hW => ⟨rfl, by rw [hU], by rw [hU]; exact hPc, kE_warm hW hE, hDc.weaken (fun _ _ _ _ => trivial)⟩⟩ rfl rfl hl.1 rfl (lv_room (Nat.le_of_ble_eq_true rfl)) dX11_numberNow_56 ⟨Nat.le_of_ble_eq_true rfl, Nat.le_of_ble_eq_true rfl⟩) hS (fun q _ h => hFc q h) hFc (fun u t H locs ht hvm w24 hB hz1 hk1 hS => ?_)
          obtain ⟨y25, hq26, hq27, hq28, hq29, hq30, hq31, hq32, hq33, hq34, hP1, hD1⟩ := hB
          try dsimp only at w24
          obtain ⟨hPa, hDa⟩ := hJn (w1 := [(m0, .inr (11, oX11 ra y25))]) hk1 ht hP1 hD1
          clear hP hD hPc hDc hFc hJn hP1 hD1 hk1
          have hP : va_P (dC, dI) vwCl [(m0, .inr (11, oX11 ra y25))] H := hPa
          have hD : va_D A [(m0, .inr (11, oX11 ra y25))] := hDa
          clear hPa hDa
          refine W.widen (k := 0) (n := 0) (Nat.le_of_ble_eq_true rfl) (Nat.le_of_ble_eq_true rfl) ?_
          refine lv_aload_n hx hb dX11_numberNow_59 rfl (lv_at hl 0 rfl) ?_
          refine va_get (D := (dC, dI)) (ci := 11) (v := .int (y25 8)) (C := RX11) (T := TX11) (N := 61) hx hb hts hin11 hown hK hP 0 rfl rfl 22 (Nat.le_of_ble_eq_true rfl) hw_0 (fun _ h9 => h9) rfl dX11_numberNow_60 ?_
          refine lv_if_ne (tgt := 73) hx hb dX11_numberNow_63 rfl (fun _ => ?_) (fun c9 => absurd c9 (iv_ne hq27 ivk_0 (by decide)))
          refine lv_iload_n hx hb dX11_numberNow_73 rfl (lv_at hl 1 rfl) ?_
          have hP9 := hP
          have hD9 := hD
          exact W.iret (v := 1) hx hb hr (fun t ht hW => ⟨⟨1, (), rfl, ⟨(iv_w ivk_1 (by decide) (by decide)), fun hk => (ok_fail ((nr_3 hRr c3 (Int32.not_lt.mp c6) (Or.inl c21)).symm ▸ hk)).elim⟩, y25, hq26, (show (y25 2).toInt = (x0 2).toInt from by omega), (show y25 3 = x0 3 from hq29), (show RRd tT nN y25 (numT tT 1 60 sS) from (nr_3 hRr c3 (Int32.not_lt.mp c6) (Or.inl c21)) ▸ hq30), (show y25 1 = x0 1 from hq31), (show y25 10 = x0 10 from hq32), (show y25 11 = x0 11 from hq33), (show y25 14 = x0 14 from hq34), by rw [ht]; exact hP9, hD9⟩, hS.F ht⟩) hS.2.2 dX11_numberNow_74
        · have b35 : iv 1 2147483647 (x0 5) := iv_leR (Int32.not_lt.mp c21) ivk_1 (hX 5 : iv (-2147483648) 2147483647 (x0 5)) (by decide) (by decide)
          refine lv_aload_n hx hb dX11_numberNow_46 rfl (lv_at hl 0 rfl) ?_
          refine va_get (D := (dC, dI)) (ci := 11) (v := .int (x0 5)) (C := RX11) (T := TX11) (N := 61) hx hb hts hin11 hown hK hP 0 rfl rfl 19 (Nat.le_of_ble_eq_true rfl) hw_4 (fun _ h9 => h9) rfl dX11_numberNow_47 ?_
          refine lv_iload_n hx hb dX11_numberNow_50 rfl (lv_at hl 2 rfl) ?_
          refine lv_icmp_le (tgt := 59) hx hb dX11_numberNow_51 rfl (fun c36 => ?_) (fun c36 => ?_)
          · have b37 : iv 1 60 (x0 5) := iv_leL c36 b35 ivk_60 (by decide) (by decide)
            refine lv_aload_n hx hb dX11_numberNow_59 rfl (lv_at hl 0 rfl) ?_
            refine va_get (D := (dC, dI)) (ci := 11) (v := .int (x0 8)) (C := RX11) (T := TX11) (N := 61) hx hb hts hin11 hown hK hP 0 rfl rfl 22 (Nat.le_of_ble_eq_true rfl) hw_0 (fun _ h9 => h9) rfl dX11_numberNow_60 ?_
            refine lv_if_ne (tgt := 73) hx hb dX11_numberNow_63 rfl (fun c9 => absurd (c1) c9) (fun _ => ?_)
            refine lv_aload_n hx hb dX11_numberNow_66 rfl (lv_at hl 0 rfl) ?_
            refine va_get (D := (dC, dI)) (ci := 11) (v := .int (x0 5)) (C := RX11) (T := TX11) (N := 61) hx hb hts hin11 hown hK hP 0 rfl rfl 19 (Nat.le_of_ble_eq_true rfl) hw_4 (fun _ h9 => h9) rfl dX11_numberNow_67 ?_
            refine lv_goto (tgt := 74) hx hb dX11_numberNow_70 rfl ?_
            have hP9 := hP
            have hD9 := hD
            exact W.iret (v := x0 5) hx hb hr (fun t ht hW => ⟨⟨x0 5, (), rfl, ⟨b37, fun _ => (nr_ok hRr c1 c3 (Int32.not_lt.mp c6) (Int32.not_lt.mp c21) c36).2⟩, x0, hX, (show (x0 2).toInt = (x0 2).toInt from by omega), (show x0 3 = x0 3 from rfl), (show RRd tT nN x0 (numT tT 1 60 sS) from (nr_ok hRr c1 c3 (Int32.not_lt.mp c6) (Int32.not_lt.mp c21) c36).1 ▸ hRr), (show x0 1 = x0 1 from rfl), (show x0 10 = x0 10 from rfl), (show x0 11 = x0 11 from rfl), (show x0 14 = x0 14 from rfl), by rw [ht]; exact hP9, hD9⟩, hS.F ht⟩) hS.2.2 dX11_numberNow_74
          · have b38 : iv 61 2147483647 (x0 5) := iv_ltR (Int32.not_le.mp c36) ivk_60 b35 (by decide) (by decide)
            refine lv_aload_n hx hb dX11_numberNow_54 rfl (lv_at hl 0 rfl) ?_
            refine lv_iconst (v := 2) hx hb dX11_numberNow_55 ic_2 ?_
            obtain ⟨hPc, hDc, hFc, hJn⟩ := cl_a (wc := [(m0, .inr (11, oX11 ra x0))]) (wr := []) hP hD hS hA [0] [] rfl rfl (by decide +kernel)
            refine va_callv (va_runV (As := [.int 2]) (rest := []) ⟨hx, hb, hml, hown, hts⟩ (s11_wrong l dC dI kB kI kJ kZ kC kS s.heap.size m0 ra x0 2 tT nN sS (hX) ((iv_w ivk_2 (by decide) (by decide))) (hRr)) (cwV 1 hts gX11_numberNow_X11_wrong rfl rfl rfl (by decide +kernel) ⟨Nat.le_of_ble_eq_true rfl, Nat.le_of_ble_eq_true rfl⟩) ⟨fun a U g mk q => by obtain ⟨q0, q1, qP, qE, qD⟩ := q; exact ⟨q0, q1, qP, kE_call qE, qD⟩, va_recv hK hP (ci := 11) (q0 := 0) rfl rfl, fun U hU hW => ⟨rfl, by rw [hU], by rw [hU]; exact hPc, kE_warm hW hE, hDc.weaken (fun _ _ _ _ => trivial)⟩⟩ rfl rfl hl.1 rfl (lv_room (Nat.le_of_ble_eq_true rfl)) dX11_numberNow_56 ⟨Nat.le_of_ble_eq_true rfl, Nat.le_of_ble_eq_true rfl⟩) hS (fun q _ h => hFc q h) hFc (fun u t H locs ht hvm w40 hB hz1 hk1 hS => ?_)
            obtain ⟨y41, hq42, hq43, hq44, hq45, hq46, hq47, hq48, hq49, hq50, hP1, hD1⟩ := hB
            try dsimp only at w40
            obtain ⟨hPa, hDa⟩ := hJn (w1 := [(m0, .inr (11, oX11 ra y41))]) hk1 ht hP1 hD1
            clear hP hD hPc hDc hFc hJn hP1 hD1 hk1
            have hP : va_P (dC, dI) vwCl [(m0, .inr (11, oX11 ra y41))] H := hPa
            have hD : va_D A [(m0, .inr (11, oX11 ra y41))] := hDa
            clear hPa hDa
            refine W.widen (k := 0) (n := 0) (Nat.le_of_ble_eq_true rfl) (Nat.le_of_ble_eq_true rfl) ?_
            refine lv_aload_n hx hb dX11_numberNow_59 rfl (lv_at hl 0 rfl) ?_
            refine va_get (D := (dC, dI)) (ci := 11) (v := .int (y41 8)) (C := RX11) (T := TX11) (N := 61) hx hb hts hin11 hown hK hP 0 rfl rfl 22 (Nat.le_of_ble_eq_true rfl) hw_0 (fun _ h9 => h9) rfl dX11_numberNow_60 ?_
            refine lv_if_ne (tgt := 73) hx hb dX11_numberNow_63 rfl (fun _ => ?_) (fun c9 => absurd c9 (iv_ne hq43 ivk_0 (by decide)))
            refine lv_iload_n hx hb dX11_numberNow_73 rfl (lv_at hl 1 rfl) ?_
            have hP9 := hP
            have hD9 := hD
            exact W.iret (v := 1) hx hb hr (fun t ht hW => ⟨⟨1, (), rfl, ⟨(iv_w ivk_1 (by decide) (by decide)), fun hk => (ok_fail ((nr_3 hRr c3 (Int32.not_lt.mp c6) (Or.inr (Int32.not_le.mp c36))).symm ▸ hk)).elim⟩, y41, hq42, (show (y41 2).toInt = (x0 2).toInt from by omega), (show y41 3 = x0 3 from hq45), (show RRd tT nN y41 (numT tT 1 60 sS) from (nr_3 hRr c3 (Int32.not_lt.mp c6) (Or.inr (Int32.not_le.mp c36))) ▸ hq46), (show y41 1 = x0 1 from hq47), (show y41 10 = x0 10 from hq48), (show y41 11 = x0 11 from hq49), (show y41 14 = x0 14 from hq50), by rw [ht]; exact hP9, hD9⟩, hS.F ht⟩) hS.2.2 dX11_numberNow_74
    · refine lv_aload_n hx hb dX11_numberNow_17 rfl (lv_at hl 0 rfl) ?_
      refine lv_iconst (v := 1) hx hb dX11_numberNow_18 ic_1 ?_
      obtain ⟨hPc, hDc, hFc, hJn⟩ := cl_a (wc := [(m0, .inr (11, oX11 ra x0))]) (wr := []) hP hD hS hA [0] [] rfl rfl (by decide +kernel)
      refine va_callv (va_runV (As := [.int 1]) (rest := []) ⟨hx, hb, hml, hown, hts⟩ (s11_wrong l dC dI kB kI kJ kZ kC kS s.heap.size m0 ra x0 1 tT nN sS (hX) ((iv_w ivk_1 (by decide) (by decide))) (hRr)) (cwV 1 hts gX11_numberNow_X11_wrong rfl rfl rfl (by decide +kernel) ⟨Nat.le_of_ble_eq_true rfl, Nat.le_of_ble_eq_true rfl⟩) ⟨fun a U g mk q => by obtain ⟨q0, q1, qP, qE, qD⟩ := q; exact ⟨q0, q1, qP, kE_call qE, qD⟩, va_recv hK hP (ci := 11) (q0 := 0) rfl rfl, fun U hU hW => ⟨rfl, by rw [hU], by rw [hU]; exact hPc, kE_warm hW hE, hDc.weaken (fun _ _ _ _ => trivial)⟩⟩ rfl rfl hl.1 rfl (lv_room (Nat.le_of_ble_eq_true rfl)) dX11_numberNow_19 ⟨Nat.le_of_ble_eq_true rfl, Nat.le_of_ble_eq_true rfl⟩) hS (fun q _ h => hFc q h) hFc (fun u t H locs ht hvm w52 hB hz1 hk1 hS => ?_)
      obtain ⟨y53, hq54, hq55, hq56, hq57, hq58, hq59, hq60, hq61, hq62, hP1, hD1⟩ := hB
      try dsimp only at w52
      obtain ⟨hPa, hDa⟩ := hJn (w1 := [(m0, .inr (11, oX11 ra y53))]) hk1 ht hP1 hD1
      clear hP hD hPc hDc hFc hJn hP1 hD1 hk1
      have hP : va_P (dC, dI) vwCl [(m0, .inr (11, oX11 ra y53))] H := hPa
      have hD : va_D A [(m0, .inr (11, oX11 ra y53))] := hDa
      clear hPa hDa
      refine W.widen (k := 0) (n := 0) (Nat.le_of_ble_eq_true rfl) (Nat.le_of_ble_eq_true rfl) ?_
      refine lv_goto (tgt := 59) hx hb dX11_numberNow_22 rfl ?_
      refine lv_aload_n hx hb dX11_numberNow_59 rfl (lv_at hl 0 rfl) ?_
      refine va_get (D := (dC, dI)) (ci := 11) (v := .int (y53 8)) (C := RX11) (T := TX11) (N := 61) hx hb hts hin11 hown hK hP 0 rfl rfl 22 (Nat.le_of_ble_eq_true rfl) hw_0 (fun _ h9 => h9) rfl dX11_numberNow_60 ?_
      refine lv_if_ne (tgt := 73) hx hb dX11_numberNow_63 rfl (fun _ => ?_) (fun c9 => absurd c9 (iv_ne hq55 ivk_0 (by decide)))
      refine lv_iload_n hx hb dX11_numberNow_73 rfl (lv_at hl 1 rfl) ?_
      have hP9 := hP
      have hD9 := hD
      exact W.iret (v := 1) hx hb hr (fun t ht hW => ⟨⟨1, (), rfl, ⟨(iv_w ivk_1 (by decide) (by decide)), fun hk => (ok_fail ((nr_1 hRr c3).symm ▸ hk)).elim⟩, y53, hq54, (show (y53 2).toInt = (x0 2).toInt from by omega), (show y53 3 = x0 3 from hq57), (show RRd tT nN y53 (numT tT 1 60 sS) from (nr_1 hRr c3) ▸ hq58), (show y53 1 = x0 1 from hq59), (show y53 10 = x0 10 from hq60), (show y53 11 = x0 11 from hq61), (show y53 14 = x0 14 from hq62), by rw [ht]; exact hP9, hD9⟩, hS.F ht⟩) hS.2.2 dX11_numberNow_74
  · have b63 : iv 1 5 (x0 8) := iv_neLo c1 (hX 8 : iv 0 5 (x0 8)) ivk_0 (by decide) (by decide)
    refine lv_iload_n hx hb dX11_numberNow_7 rfl (lv_at hl 1 rfl) ?_
    have hP9 := hP
    have hD9 := hD
    exact W.iret (v := 1) hx hb hr (fun t ht hW => ⟨⟨1, (), rfl, ⟨(iv_w ivk_1 (by decide) (by decide)), fun hk => absurd (ok_num hk) (rr_no hRr c1)⟩, x0, hX, (show (x0 2).toInt = (x0 2).toInt from by omega), (show x0 3 = x0 3 from rfl), (show RRd tT nN x0 (numT tT 1 60 sS) from nr_b hRr c1 ▸ hRr), (show x0 1 = x0 1 from rfl), (show x0 10 = x0 10 from rfl), (show x0 11 = x0 11 from rfl), (show x0 14 = x0 14 from rfl), by rw [ht]; exact hP9, hD9⟩, hS.F ht⟩) hS.2.2 dX11_numberNow_8
def rm_s11_numberNow_1_50 : Room := { frames := 1, cells := 0, slots := 0, locals := 21 }
set_option maxHeartbeats 4000000 in
set_option maxRecDepth 100000 in
theorem s11_numberNow_1_50 (l : Launch) (dC : Nat → ClassId) (dI : Nat → Nat → Nat) (kB kI kJ kZ kC kS : ClassId) (sz : Nat) (m0 : Nat) (ra : Nat → Nat) (x0 : Nat → Int32) (tT : Nat → Int32) (nN : Int32) (sS : StT) (hX : fI lX11 hX11 x0) (hRr : RRd tT nN x0 sS) : Met l yX11_numberNow wsX11_numberNow rm_s11_numberNow_1_50 (va_Pc [.ref m0, .int 1, .int 50] (fun U => U.heap.size = sz ∧ va_P (dC, dI) vwCl [(m0, .inr (11, oX11 ra x0))] U.heap ∧ kE dC dI kB kI kJ kZ kC kS U ∧ va_D (fun _ => True) [(m0, .inr (11, oX11 ra x0))])) (va_Qi (fun (r : Int32) (_ : Unit) => iv 1 50 r ∧ (okT (numT tT 1 50 sS) → r = valS tT sS)) (fun _ t => ∃ (x0' : Nat → Int32), fI lX11 hX11 x0' ∧ ((x0' 2).toInt = (x0 2).toInt) ∧ (x0' 3 = x0 3) ∧ (RRd tT nN x0' (numT tT 1 50 sS)) ∧ (x0' 1 = x0 1) ∧ (x0' 10 = x0 10) ∧ (x0' 11 = x0 11) ∧ (x0' 14 = x0 14) ∧ va_P (dC, dI) vwCl [(m0, .inr (11, oX11 ra x0'))] t.heap ∧ va_D (va_A [(m0, .inr (11, oX11 ra x0))] sz) [(m0, .inr (11, oX11 ra x0'))]) (va_A [(m0, .inr (11, oX11 ra x0))] sz)) 0 0 (va_A [(m0, .inr (11, oX11 ra x0))] sz) := by
  refine Met.ofW (cc := cX11_numberNow) (maxL := 3) (ret := (some .int)) (by decide) rfl ?_
  intro p e s m args0 below meth c s₁ B hml hv
  obtain ⟨hargs, hsz, hP, hE, hD0⟩ := hv
  have hx := B.exec
  have hb := B.bytes
  have hr := B.returns
  have hts := atoms_spec (ws := wsX11_numberNow) B.pre
  have hown : s.vm.findClass RX11 = some m.cls := findClass_of_methodNamed B.named
  have hlocks := B.notSynchronized
  have hK := hE.1
  have hin11 : ∀ w ∈ wsX110, w ∈ wsX11_numberNow := fun _ h9 => List.mem_cons_of_mem _ (List.mem_append_right _ h9)
  have hw_0 := hts (.fieldLink RX11 184 "PathProberModel" "bad" "I") (List.mem_of_getElem? (i := 1) rfl)
  have hw_1 := hts (.fieldLink RX11 161 "PathProberModel" "token" "I") (List.mem_of_getElem? (i := 2) rfl)
  have hw_2 := hts (.fieldLink RX11 181 "PathProberModel" "stops" "I") (List.mem_of_getElem? (i := 3) rfl)
  have hw_3 := hts (.fieldLink RX11 158 "PathProberModel" "begins" "I") (List.mem_of_getElem? (i := 4) rfl)
  have hw_4 := hts (.fieldLink RX11 171 "PathProberModel" "number" "I") (List.mem_of_getElem? (i := 5) rfl)
  subst hsz
  have hD := hD0.self (sz := s.heap.size)
  generalize hAe : va_A [(m0, .inr (11, oX11 ra x0))] s.heap.size = A at hD ⊢
  have hA : ∀ q : Nat, s.heap.size ≤ q → A q := fun q h => by rw [← hAe]; exact Or.inr h
  have hS : va_S A s.heap s.heap [] := va_S.rf
  have hP : va_P (dC, dI) vwCl [(m0, .inr (11, oX11 ra x0))] s.heap := hP
  have hl := lv_entry ([.ref m0, .int 1, .int 50]) (n := 3) (Nat.le_of_ble_eq_true rfl)
  have hla : entryFrame m args0 3 = entryFrame m ([.ref m0, .int 1, .int 50] : List Value).toArray 3 := by rw [hargs]
  rw [hla, lg_entry_eq]
  generalize (lg_sl ([.ref m0, .int 1, .int 50]) ++ List.replicate (3 - (lg_sl ([.ref m0, .int 1, .int 50])).length) Slot.unset).toArray = ls at hl ⊢
  have hl : lv_has ls 3 [(0, .ref m0), (1, .int 1), (2, .int 50)] := hl
  refine lv_aload_n hx hb dX11_numberNow_0 rfl (lv_at hl 0 rfl) ?_
  refine va_get (D := (dC, dI)) (ci := 11) (v := .int (x0 8)) (C := RX11) (T := TX11) (N := 61) hx hb hts hin11 hown hK hP 0 rfl rfl 22 (Nat.le_of_ble_eq_true rfl) hw_0 (fun _ h9 => h9) rfl dX11_numberNow_1 ?_
  refine lv_if_eq (tgt := 9) hx hb dX11_numberNow_4 rfl (fun c1 => ?_) (fun c1 => ?_)
  · have b2 : iv 0 0 (x0 8) := iv_eqL c1 ivk_0
    refine lv_aload_n hx hb dX11_numberNow_9 rfl (lv_at hl 0 rfl) ?_
    refine va_get (D := (dC, dI)) (ci := 11) (v := .int (x0 4)) (C := RX11) (T := TX11) (N := 61) hx hb hts hin11 hown hK hP 0 rfl rfl 18 (Nat.le_of_ble_eq_true rfl) hw_1 (fun _ h9 => h9) rfl dX11_numberNow_10 ?_
    refine lv_iconst (v := 2) hx hb dX11_numberNow_13 ic_2 ?_
    refine lv_icmp_eq (tgt := 25) hx hb dX11_numberNow_14 rfl (fun c3 => ?_) (fun c3 => ?_)
    · have b4 : iv 2 2 (x0 4) := iv_eqL c3 ivk_2
      refine lv_aload_n hx hb dX11_numberNow_25 rfl (lv_at hl 0 rfl) ?_
      refine va_get (D := (dC, dI)) (ci := 11) (v := .int (x0 7)) (C := RX11) (T := TX11) (N := 61) hx hb hts hin11 hown hK hP 0 rfl rfl 21 (Nat.le_of_ble_eq_true rfl) hw_2 (fun _ h9 => h9) rfl dX11_numberNow_26 ?_
      refine lv_aload_n hx hb dX11_numberNow_29 rfl (lv_at hl 0 rfl) ?_
      refine va_get (D := (dC, dI)) (ci := 11) (v := .int (x0 6)) (C := RX11) (T := TX11) (N := 61) hx hb hts hin11 hown hK hP 0 rfl rfl 20 (Nat.le_of_ble_eq_true rfl) hw_3 (fun _ h9 => h9) rfl dX11_numberNow_30 ?_
      refine lv_isub hx hb dX11_numberNow_33 ?_
      have b5 : iv (-700) 700 ((x0 7) - (x0 6)) := iv_sub (hX 7 : iv 0 700 (x0 7)) (hX 6 : iv 0 700 (x0 6)) (by decide) (by decide) (by decide) (by decide)
      refine lv_iconst (v := 2) hx hb dX11_numberNow_34 ic_2 ?_
      refine lv_icmp_gt (tgt := 54) hx hb dX11_numberNow_35 rfl (fun c6 => ?_) (fun c6 => ?_)
      · have b7 : iv 3 700 ((x0 7) - (x0 6)) := iv_ltR c6 ivk_2 b5 (by decide) (by decide)
        refine lv_aload_n hx hb dX11_numberNow_54 rfl (lv_at hl 0 rfl) ?_
        refine lv_iconst (v := 2) hx hb dX11_numberNow_55 ic_2 ?_
        obtain ⟨hPc, hDc, hFc, hJn⟩ := cl_a (wc := [(m0, .inr (11, oX11 ra x0))]) (wr := []) hP hD hS hA [0] [] rfl rfl (by decide +kernel)
        refine va_callv (va_runV (As := [.int 2]) (rest := []) ⟨hx, hb, hml, hown, hts⟩ (s11_wrong l dC dI kB kI kJ kZ kC kS s.heap.size m0 ra x0 2 tT nN sS (hX) ((iv_w ivk_2 (by decide) (by decide))) (hRr)) (cwV 1 hts gX11_numberNow_X11_wrong rfl rfl rfl (by decide +kernel) ⟨Nat.le_of_ble_eq_true rfl, Nat.le_of_ble_eq_true rfl⟩) ⟨fun a U g mk q => by obtain ⟨q0, q1, qP, qE, qD⟩ := q; exact ⟨q0, q1, qP, kE_call qE, qD⟩, va_recv hK hP (ci := 11) (q0 := 0) rfl rfl, fun U hU hW => ⟨rfl, by rw [hU], by rw [hU]; exact hPc, kE_warm hW hE, hDc.weaken (fun _ _ _ _ => trivial)⟩⟩ rfl rfl hl.1 rfl (lv_room (Nat.le_of_ble_eq_true rfl)) dX11_numberNow_56 ⟨Nat.le_of_ble_eq_true rfl, Nat.le_of_ble_eq_true rfl⟩) hS (fun q _ h => hFc q h) hFc (fun u t H locs ht hvm w9 hB hz1 hk1 hS => ?_)
        obtain ⟨y10, hq11, hq12, hq13, hq14, hq15, hq16, hq17, hq18, hq19, hP1, hD1⟩ := hB
        try dsimp only at w9
        obtain ⟨hPa, hDa⟩ := hJn (w1 := [(m0, .inr (11, oX11 ra y10))]) hk1 ht hP1 hD1
        clear hP hD hPc hDc hFc hJn hP1 hD1 hk1
        have hP : va_P (dC, dI) vwCl [(m0, .inr (11, oX11 ra y10))] H := hPa
        have hD : va_D A [(m0, .inr (11, oX11 ra y10))] := hDa
        clear hPa hDa
        refine W.widen (k := 0) (n := 0) (Nat.le_of_ble_eq_true rfl) (Nat.le_of_ble_eq_true rfl) ?_
        refine lv_aload_n hx hb dX11_numberNow_59 rfl (lv_at hl 0 rfl) ?_
        refine va_get (D := (dC, dI)) (ci := 11) (v := .int (y10 8)) (C := RX11) (T := TX11) (N := 61) hx hb hts hin11 hown hK hP 0 rfl rfl 22 (Nat.le_of_ble_eq_true rfl) hw_0 (fun _ h9 => h9) rfl dX11_numberNow_60 ?_
        refine lv_if_ne (tgt := 73) hx hb dX11_numberNow_63 rfl (fun _ => ?_) (fun c9 => absurd c9 (iv_ne hq12 ivk_0 (by decide)))
        refine lv_iload_n hx hb dX11_numberNow_73 rfl (lv_at hl 1 rfl) ?_
        have hP9 := hP
        have hD9 := hD
        exact W.iret (v := 1) hx hb hr (fun t ht hW => ⟨⟨1, (), rfl, ⟨(iv_w ivk_1 (by decide) (by decide)), fun hk => (ok_fail ((nr_2 hRr c3 c6).symm ▸ hk)).elim⟩, y10, hq11, (show (y10 2).toInt = (x0 2).toInt from by omega), (show y10 3 = x0 3 from hq14), (show RRd tT nN y10 (numT tT 1 50 sS) from (nr_2 hRr c3 c6) ▸ hq15), (show y10 1 = x0 1 from hq16), (show y10 10 = x0 10 from hq17), (show y10 11 = x0 11 from hq18), (show y10 14 = x0 14 from hq19), by rw [ht]; exact hP9, hD9⟩, hS.F ht⟩) hS.2.2 dX11_numberNow_74
      · have b20 : iv (-700) 2 ((x0 7) - (x0 6)) := iv_leL (Int32.not_lt.mp c6) b5 ivk_2 (by decide) (by decide)
        refine lv_aload_n hx hb dX11_numberNow_38 rfl (lv_at hl 0 rfl) ?_
        refine va_get (D := (dC, dI)) (ci := 11) (v := .int (x0 5)) (C := RX11) (T := TX11) (N := 61) hx hb hts hin11 hown hK hP 0 rfl rfl 19 (Nat.le_of_ble_eq_true rfl) hw_4 (fun _ h9 => h9) rfl dX11_numberNow_39 ?_
        refine lv_iload_n hx hb dX11_numberNow_42 rfl (lv_at hl 1 rfl) ?_
        refine lv_icmp_lt (tgt := 54) hx hb dX11_numberNow_43 rfl (fun c21 => ?_) (fun c21 => ?_)
        · have b22 : iv (-2147483648) 0 (x0 5) := iv_ltL c21 (hX 5 : iv (-2147483648) 2147483647 (x0 5)) ivk_1 (by decide) (by decide)
          refine lv_aload_n hx hb dX11_numberNow_54 rfl (lv_at hl 0 rfl) ?_
          refine lv_iconst (v := 2) hx hb dX11_numberNow_55 ic_2 ?_
          obtain ⟨hPc, hDc, hFc, hJn⟩ := cl_a (wc := [(m0, .inr (11, oX11 ra x0))]) (wr := []) hP hD hS hA [0] [] rfl rfl (by decide +kernel)
          refine va_callv (va_runV (As := [.int 2]) (rest := []) ⟨hx, hb, hml, hown, hts⟩ (s11_wrong l dC dI kB kI kJ kZ kC kS s.heap.size m0 ra x0 2 tT nN sS (hX) ((iv_w ivk_2 (by decide) (by decide))) (hRr)) (cwV 1 hts gX11_numberNow_X11_wrong rfl rfl rfl (by decide +kernel) ⟨Nat.le_of_ble_eq_true rfl, Nat.le_of_ble_eq_true rfl⟩) ⟨fun a U g mk q => by obtain ⟨q0, q1, qP, qE, qD⟩ := q; exact ⟨q0, q1, qP, kE_call qE, qD⟩, va_recv hK hP (ci := 11) (q0 := 0) rfl rfl, fun U hU hW => ⟨rfl, by rw [hU], by rw [hU]; exact hPc, kE_warm hW hE, hDc.weaken (fun _ _ _ _ => trivial)⟩⟩ rfl rfl hl.1 rfl (lv_room (Nat.le_of_ble_eq_true rfl)) dX11_numberNow_56 ⟨Nat.le_of_ble_eq_true rfl, Nat.le_of_ble_eq_true rfl⟩) hS (fun q _ h => hFc q h) hFc (fun u t H locs ht hvm w24 hB hz1 hk1 hS => ?_)
          obtain ⟨y25, hq26, hq27, hq28, hq29, hq30, hq31, hq32, hq33, hq34, hP1, hD1⟩ := hB
          try dsimp only at w24
          obtain ⟨hPa, hDa⟩ := hJn (w1 := [(m0, .inr (11, oX11 ra y25))]) hk1 ht hP1 hD1
          clear hP hD hPc hDc hFc hJn hP1 hD1 hk1
          have hP : va_P (dC, dI) vwCl [(m0, .inr (11, oX11 ra y25))] H := hPa
          have hD : va_D A [(m0, .inr (11, oX11 ra y25))] := hDa
          clear hPa hDa
          refine W.widen (k := 0) (n := 0) (Nat.le_of_ble_eq_true rfl) (Nat.le_of_ble_eq_true rfl) ?_
          refine lv_aload_n hx hb dX11_numberNow_59 rfl (lv_at hl 0 rfl) ?_
          refine va_get (D := (dC, dI)) (ci := 11) (v := .int (y25 8)) (C := RX11) (T := TX11) (N := 61) hx hb hts hin11 hown hK hP 0 rfl rfl 22 (Nat.le_of_ble_eq_true rfl) hw_0 (fun _ h9 => h9) rfl dX11_numberNow_60 ?_
          refine lv_if_ne (tgt := 73) hx hb dX11_numberNow_63 rfl (fun _ => ?_) (fun c9 => absurd c9 (iv_ne hq27 ivk_0 (by decide)))
          refine lv_iload_n hx hb dX11_numberNow_73 rfl (lv_at hl 1 rfl) ?_
          have hP9 := hP
          have hD9 := hD
          exact W.iret (v := 1) hx hb hr (fun t ht hW => ⟨⟨1, (), rfl, ⟨(iv_w ivk_1 (by decide) (by decide)), fun hk => (ok_fail ((nr_3 hRr c3 (Int32.not_lt.mp c6) (Or.inl c21)).symm ▸ hk)).elim⟩, y25, hq26, (show (y25 2).toInt = (x0 2).toInt from by omega), (show y25 3 = x0 3 from hq29), (show RRd tT nN y25 (numT tT 1 50 sS) from (nr_3 hRr c3 (Int32.not_lt.mp c6) (Or.inl c21)) ▸ hq30), (show y25 1 = x0 1 from hq31), (show y25 10 = x0 10 from hq32), (show y25 11 = x0 11 from hq33), (show y25 14 = x0 14 from hq34), by rw [ht]; exact hP9, hD9⟩, hS.F ht⟩) hS.2.2 dX11_numberNow_74
        · have b35 : iv 1 2147483647 (x0 5) := iv_leR (Int32.not_lt.mp c21) ivk_1 (hX 5 : iv (-2147483648) 2147483647 (x0 5)) (by decide) (by decide)
          refine lv_aload_n hx hb dX11_numberNow_46 rfl (lv_at hl 0 rfl) ?_
          refine va_get (D := (dC, dI)) (ci := 11) (v := .int (x0 5)) (C := RX11) (T := TX11) (N := 61) hx hb hts hin11 hown hK hP 0 rfl rfl 19 (Nat.le_of_ble_eq_true rfl) hw_4 (fun _ h9 => h9) rfl dX11_numberNow_47 ?_
          refine lv_iload_n hx hb dX11_numberNow_50 rfl (lv_at hl 2 rfl) ?_
          refine lv_icmp_le (tgt := 59) hx hb dX11_numberNow_51 rfl (fun c36 => ?_) (fun c36 => ?_)
          · have b37 : iv 1 50 (x0 5) := iv_leL c36 b35 ivk_50 (by decide) (by decide)
            refine lv_aload_n hx hb dX11_numberNow_59 rfl (lv_at hl 0 rfl) ?_
            refine va_get (D := (dC, dI)) (ci := 11) (v := .int (x0 8)) (C := RX11) (T := TX11) (N := 61) hx hb hts hin11 hown hK hP 0 rfl rfl 22 (Nat.le_of_ble_eq_true rfl) hw_0 (fun _ h9 => h9) rfl dX11_numberNow_60 ?_
            refine lv_if_ne (tgt := 73) hx hb dX11_numberNow_63 rfl (fun c9 => absurd (c1) c9) (fun _ => ?_)
            refine lv_aload_n hx hb dX11_numberNow_66 rfl (lv_at hl 0 rfl) ?_
            refine va_get (D := (dC, dI)) (ci := 11) (v := .int (x0 5)) (C := RX11) (T := TX11) (N := 61) hx hb hts hin11 hown hK hP 0 rfl rfl 19 (Nat.le_of_ble_eq_true rfl) hw_4 (fun _ h9 => h9) rfl dX11_numberNow_67 ?_
            refine lv_goto (tgt := 74) hx hb dX11_numberNow_70 rfl ?_
            have hP9 := hP
            have hD9 := hD
            exact W.iret (v := x0 5) hx hb hr (fun t ht hW => ⟨⟨x0 5, (), rfl, ⟨b37, fun _ => (nr_ok hRr c1 c3 (Int32.not_lt.mp c6) (Int32.not_lt.mp c21) c36).2⟩, x0, hX, (show (x0 2).toInt = (x0 2).toInt from by omega), (show x0 3 = x0 3 from rfl), (show RRd tT nN x0 (numT tT 1 50 sS) from (nr_ok hRr c1 c3 (Int32.not_lt.mp c6) (Int32.not_lt.mp c21) c36).1 ▸ hRr), (show x0 1 = x0 1 from rfl), (show x0 10 = x0 10 from rfl), (show x0 11 = x0 11 from rfl), (show x0 14 = x0 14 from rfl), by rw [ht]; exact hP9, hD9⟩, hS.F ht⟩) hS.2.2 dX11_numberNow_74
          · have b38 : iv 51 2147483647 (x0 5) := iv_ltR (Int32.not_le.mp c36) ivk_50 b35 (by decide) (by decide)
            refine lv_aload_n hx hb dX11_numberNow_54 rfl (lv_at hl 0 rfl) ?_
            refine lv_iconst (v := 2) hx hb dX11_numberNow_55 ic_2 ?_
            obtain ⟨hPc, hDc, hFc, hJn⟩ := cl_a (wc := [(m0, .inr (11, oX11 ra x0))]) (wr := []) hP hD hS hA [0] [] rfl rfl (by decide +kernel)
            refine va_callv (va_runV (As := [.int 2]) (rest := []) ⟨hx, hb, hml, hown, hts⟩ (s11_wrong l dC dI kB kI kJ kZ kC kS s.heap.size m0 ra x0 2 tT nN sS (hX) ((iv_w ivk_2 (by decide) (by decide))) (hRr)) (cwV 1 hts gX11_numberNow_X11_wrong rfl rfl rfl (by decide +kernel) ⟨Nat.le_of_ble_eq_true rfl, Nat.le_of_ble_eq_true rfl⟩) ⟨fun a U g mk q => by obtain ⟨q0, q1, qP, qE, qD⟩ := q; exact ⟨q0, q1, qP, kE_call qE, qD⟩, va_recv hK hP (ci := 11) (q0 := 0) rfl rfl, fun U hU hW => ⟨rfl, by rw [hU], by rw [hU]; exact hPc, kE_warm hW hE, hDc.weaken (fun _ _ _ _ => trivial)⟩⟩ rfl rfl hl.1 rfl (lv_room (Nat.le_of_ble_eq_true rfl)) dX11_numberNow_56 ⟨Nat.le_of_ble_eq_true rfl, Nat.le_of_ble_eq_true rfl⟩) hS (fun q _ h => hFc q h) hFc (fun u t H locs ht hvm w40 hB hz1 hk1 hS => ?_)
            obtain ⟨y41, hq42, hq43, hq44, hq45, hq46, hq47, hq48, hq49, hq50, hP1, hD1⟩ := hB
            try dsimp only at w40
            obtain ⟨hPa, hDa⟩ := hJn (w1 := [(m0, .inr (11, oX11 ra y41))]) hk1 ht hP1 hD1
            clear hP hD hPc hDc hFc hJn hP1 hD1 hk1
            have hP : va_P (dC, dI) vwCl [(m0, .inr (11, oX11 ra y41))] H := hPa
            have hD : va_D A [(m0, .inr (11, oX11 ra y41))] := hDa
            clear hPa hDa
            refine W.widen (k := 0) (n := 0) (Nat.le_of_ble_eq_true rfl) (Nat.le_of_ble_eq_true rfl) ?_
            refine lv_aload_n hx hb dX11_numberNow_59 rfl (lv_at hl 0 rfl) ?_
            refine va_get (D := (dC, dI)) (ci := 11) (v := .int (y41 8)) (C := RX11) (T := TX11) (N := 61) hx hb hts hin11 hown hK hP 0 rfl rfl 22 (Nat.le_of_ble_eq_true rfl) hw_0 (fun _ h9 => h9) rfl dX11_numberNow_60 ?_
            refine lv_if_ne (tgt := 73) hx hb dX11_numberNow_63 rfl (fun _ => ?_) (fun c9 => absurd c9 (iv_ne hq43 ivk_0 (by decide)))
            refine lv_iload_n hx hb dX11_numberNow_73 rfl (lv_at hl 1 rfl) ?_
            have hP9 := hP
            have hD9 := hD
            exact W.iret (v := 1) hx hb hr (fun t ht hW => ⟨⟨1, (), rfl, ⟨(iv_w ivk_1 (by decide) (by decide)), fun hk => (ok_fail ((nr_3 hRr c3 (Int32.not_lt.mp c6) (Or.inr (Int32.not_le.mp c36))).symm ▸ hk)).elim⟩, y41, hq42, (show (y41 2).toInt = (x0 2).toInt from by omega), (show y41 3 = x0 3 from hq45), (show RRd tT nN y41 (numT tT 1 50 sS) from (nr_3 hRr c3 (Int32.not_lt.mp c6) (Or.inr (Int32.not_le.mp c36))) ▸ hq46), (show y41 1 = x0 1 from hq47), (show y41 10 = x0 10 from hq48), (show y41 11 = x0 11 from hq49), (show y41 14 = x0 14 from hq50), by rw [ht]; exact hP9, hD9⟩, hS.F ht⟩) hS.2.2 dX11_numberNow_74
    · refine lv_aload_n hx hb dX11_numberNow_17 rfl (lv_at hl 0 rfl) ?_
      refine lv_iconst (v := 1) hx hb dX11_numberNow_18 ic_1 ?_
      obtain ⟨hPc, hDc, hFc, hJn⟩ := cl_a (wc := [(m0, .inr (11, oX11 ra x0))]) (wr := []) hP hD hS hA [0] [] rfl rfl (by decide +kernel)
      refine va_callv (va_runV (As := [.int 1]) (rest := []) ⟨hx, hb, hml, hown, hts⟩ (s11_wrong l dC dI kB kI kJ kZ kC kS s.heap.size m0 ra x0 1 tT nN sS (hX) ((iv_w ivk_1 (by decide) (by decide))) (hRr)) (cwV 1 hts gX11_numberNow_X11_wrong rfl rfl rfl (by decide +kernel) ⟨Nat.le_of_ble_eq_true rfl, Nat.le_of_ble_eq_true rfl⟩) ⟨fun a U g mk q => by obtain ⟨q0, q1, qP, qE, qD⟩ := q; exact ⟨q0, q1, qP, kE_call qE, qD⟩, va_recv hK hP (ci := 11) (q0 := 0) rfl rfl, fun U hU hW => ⟨rfl, by rw [hU], by rw [hU]; exact hPc, kE_warm hW hE, hDc.weaken (fun _ _ _ _ => trivial)⟩⟩ rfl rfl hl.1 rfl (lv_room (Nat.le_of_ble_eq_true rfl)) dX11_numberNow_19 ⟨Nat.le_of_ble_eq_true rfl, Nat.le_of_ble_eq_true rfl⟩) hS (fun q _ h => hFc q h) hFc (fun u t H locs ht hvm w52 hB hz1 hk1 hS => ?_)
      obtain ⟨y53, hq54, hq55, hq56, hq57, hq58, hq59, hq60, hq61, hq62, hP1, hD1⟩ := hB
      try dsimp only at w52
      obtain ⟨hPa, hDa⟩ := hJn (w1 := [(m0, .inr (11, oX11 ra y53))]) hk1 ht hP1 hD1
      clear hP hD hPc hDc hFc hJn hP1 hD1 hk1
      have hP : va_P (dC, dI) vwCl [(m0, .inr (11, oX11 ra y53))] H := hPa
      have hD : va_D A [(m0, .inr (11, oX11 ra y53))] := hDa
      clear hPa hDa
      refine W.widen (k := 0) (n := 0) (Nat.le_of_ble_eq_true rfl) (Nat.le_of_ble_eq_true rfl) ?_
      refine lv_goto (tgt := 59) hx hb dX11_numberNow_22 rfl ?_
      refine lv_aload_n hx hb dX11_numberNow_59 rfl (lv_at hl 0 rfl) ?_
      refine va_get (D := (dC, dI)) (ci := 11) (v := .int (y53 8)) (C := RX11) (T := TX11) (N := 61) hx hb hts hin11 hown hK hP 0 rfl rfl 22 (Nat.le_of_ble_eq_true rfl) hw_0 (fun _ h9 => h9) rfl dX11_numberNow_60 ?_
      refine lv_if_ne (tgt := 73) hx hb dX11_numberNow_63 rfl (fun _ => ?_) (fun c9 => absurd c9 (iv_ne hq55 ivk_0 (by decide)))
      refine lv_iload_n hx hb dX11_numberNow_73 rfl (lv_at hl 1 rfl) ?_
      have hP9 := hP
      have hD9 := hD
      exact W.iret (v := 1) hx hb hr (fun t ht hW => ⟨⟨1, (), rfl, ⟨(iv_w ivk_1 (by decide) (by decide)), fun hk => (ok_fail ((nr_1 hRr c3).symm ▸ hk)).elim⟩, y53, hq54, (show (y53 2).toInt = (x0 2).toInt from by omega), (show y53 3 = x0 3 from hq57), (show RRd tT nN y53 (numT tT 1 50 sS) from (nr_1 hRr c3) ▸ hq58), (show y53 1 = x0 1 from hq59), (show y53 10 = x0 10 from hq60), (show y53 11 = x0 11 from hq61), (show y53 14 = x0 14 from hq62), by rw [ht]; exact hP9, hD9⟩, hS.F ht⟩) hS.2.2 dX11_numberNow_74
  · have b63 : iv 1 5 (x0 8) := iv_neLo c1 (hX 8 : iv 0 5 (x0 8)) ivk_0 (by decide) (by decide)
    refine lv_iload_n hx hb dX11_numberNow_7 rfl (lv_at hl 1 rfl) ?_
    have hP9 := hP
    have hD9 := hD
    exact W.iret (v := 1) hx hb hr (fun t ht hW => ⟨⟨1, (), rfl, ⟨(iv_w ivk_1 (by decide) (by decide)), fun hk => absurd (ok_num hk) (rr_no hRr c1)⟩, x0, hX, (show (x0 2).toInt = (x0 2).toInt from by omega), (show x0 3 = x0 3 from rfl), (show RRd tT nN x0 (numT tT 1 50 sS) from nr_b hRr c1 ▸ hRr), (show x0 1 = x0 1 from rfl), (show x0 10 = x0 10 from rfl), (show x0 11 = x0 11 from rfl), (show x0 14 = x0 14 from rfl), by rw [ht]; exact hP9, hD9⟩, hS.F ht⟩) hS.2.2 dX11_numberNow_8
def rm_s11_readNumber_0_15 : Room := { frames := 2, cells := 0, slots := 0, locals := 43 }
set_option maxHeartbeats 4000000 in
set_option maxRecDepth 100000 in
theorem s11_readNumber_0_15 (l : Launch) (dC : Nat → ClassId) (dI : Nat → Nat → Nat) (kB kI kJ kZ kC kS : ClassId) (sz : Nat) (m0 : Nat) (ra : Nat → Nat) (x0 : Nat → Int32) (q_tape : Nat → Int32) (tT : Nat → Int32) (nN : Int32) (sS : StT) (hX : fI lX11 hX11 x0) (hq_tape : fI (fun _ => 0) (fun _ => 255) q_tape) (hRr : RRd tT nN x0 sS) (hTQ : tT = q_tape) : Met l yX11_readNumber wsX11_readNumber rm_s11_readNumber_0_15 (va_Pc [.ref m0, .int 0, .int 15] (fun U => U.heap.size = sz ∧ va_P (dC, dI) vwCl [(m0, .inr (11, oX11 ra x0)), (ra 13, .inl (kI, 700, .inl q_tape))] U.heap ∧ kE dC dI kB kI kJ kZ kC kS U ∧ va_D (fun _ => True) [(m0, .inr (11, oX11 ra x0)), (ra 13, .inl (kI, 700, .inl q_tape))])) (va_Qi (fun (r : Int32) (_ : Unit) => iv 0 15 r ∧ (okT (numT tT 0 15 sS) → r = valS tT sS)) (fun _ t => ∃ (x0' : Nat → Int32), fI lX11 hX11 x0' ∧ ((x0 2).toInt ≤ (x0' 2).toInt) ∧ (x0' 3 = x0 3) ∧ (RRd tT nN x0' (nextT tT nN (numT tT 0 15 sS))) ∧ (x0' 1 = x0 1) ∧ (x0' 10 = x0 10) ∧ (x0' 11 = x0 11) ∧ (x0' 14 = x0 14) ∧ va_P (dC, dI) vwCl [(m0, .inr (11, oX11 ra x0')), (ra 13, .inl (kI, 700, .inl q_tape))] t.heap ∧ va_D (va_A [(m0, .inr (11, oX11 ra x0)), (ra 13, .inl (kI, 700, .inl q_tape))] sz) [(m0, .inr (11, oX11 ra x0')), (ra 13, .inl (kI, 700, .inl q_tape))]) (va_A [(m0, .inr (11, oX11 ra x0)), (ra 13, .inl (kI, 700, .inl q_tape))] sz)) 0 0 (va_A [(m0, .inr (11, oX11 ra x0)), (ra 13, .inl (kI, 700, .inl q_tape))] sz) := by
  refine Met.ofW (cc := cX11_readNumber) (maxL := 4) (ret := (some .int)) (by decide) rfl ?_
  intro p e s m args0 below meth c s₁ B hml hv
  obtain ⟨hargs, hsz, hP, hE, hD0⟩ := hv
  have hx := B.exec
  have hb := B.bytes
  have hr := B.returns
  have hts := atoms_spec (ws := wsX11_readNumber) B.pre
  have hown : s.vm.findClass RX11 = some m.cls := findClass_of_methodNamed B.named
  have hlocks := B.notSynchronized
  have hK := hE.1
  have hin11 : ∀ w ∈ wsX110, w ∈ wsX11_readNumber := fun _ h9 => List.mem_cons_of_mem _ (List.mem_append_right _ h9)
  have hw_0 := hts (.fieldLink RX11 184 "PathProberModel" "bad" "I") (List.mem_of_getElem? (i := 1) rfl)
  subst hsz
  have hD := hD0.self (sz := s.heap.size)
  generalize hAe : va_A [(m0, .inr (11, oX11 ra x0)), (ra 13, .inl (kI, 700, .inl q_tape))] s.heap.size = A at hD ⊢
  have hA : ∀ q : Nat, s.heap.size ≤ q → A q := fun q h => by rw [← hAe]; exact Or.inr h
  have hS : va_S A s.heap s.heap [] := va_S.rf
  have hP : va_P (dC, dI) vwCl [(m0, .inr (11, oX11 ra x0)), (ra 13, .inl (kI, 700, .inl q_tape))] s.heap := hP
  have hl := lv_entry ([.ref m0, .int 0, .int 15]) (n := 4) (Nat.le_of_ble_eq_true rfl)
  have hla : entryFrame m args0 4 = entryFrame m ([.ref m0, .int 0, .int 15] : List Value).toArray 4 := by rw [hargs]
  rw [hla, lg_entry_eq]
  generalize (lg_sl ([.ref m0, .int 0, .int 15]) ++ List.replicate (4 - (lg_sl ([.ref m0, .int 0, .int 15])).length) Slot.unset).toArray = ls at hl ⊢
  have hl : lv_has ls 4 [(0, .ref m0), (1, .int 0), (2, .int 15)] := hl
  refine lv_aload_n hx hb dX11_readNumber_0 rfl (lv_at hl 0 rfl) ?_
  refine lv_iload_n hx hb dX11_readNumber_1 rfl (lv_at hl 1 rfl) ?_
  refine lv_iload_n hx hb dX11_readNumber_2 rfl (lv_at hl 2 rfl) ?_
  obtain ⟨hPc, hDc, hFc, hJn⟩ := cl_a (wc := [(m0, .inr (11, oX11 ra x0))]) (wr := [(ra 13, .inl (kI, 700, .inl q_tape))]) hP hD hS hA [0] [1] rfl rfl (by decide +kernel)
  refine va_calli (va_runV (As := [.int 0, .int 15]) (rest := []) ⟨hx, hb, hml, hown, hts⟩ (s11_numberNow_0_15 l dC dI kB kI kJ kZ kC kS s.heap.size m0 ra x0 tT nN sS (hX) (hRr)) (cwV 2 hts gX11_readNumber_X11_numberNow rfl rfl rfl (by decide +kernel) ⟨Nat.le_of_ble_eq_true rfl, Nat.le_of_ble_eq_true rfl⟩) ⟨fun a U g mk q => by obtain ⟨q0, q1, qP, qE, qD⟩ := q; exact ⟨q0, q1, qP, kE_call qE, qD⟩, va_recv hK hP (ci := 11) (q0 := 0) rfl rfl, fun U hU hW => ⟨rfl, by rw [hU], by rw [hU]; exact hPc, kE_warm hW hE, hDc.weaken (fun _ _ _ _ => trivial)⟩⟩ rfl rfl hl.1 rfl (lv_room (Nat.le_of_ble_eq_true rfl)) dX11_readNumber_3 ⟨Nat.le_of_ble_eq_true rfl, Nat.le_of_ble_eq_true rfl⟩) hS (fun q _ h => hFc q h) hFc (fun r1 u t H locs ht hvm w2 hB hz1 hk1 hS => ?_)
  obtain ⟨y3, hq4, hq5, hq6, hq7, hq8, hq9, hq10, hq11, hP1, hD1⟩ := hB
  try dsimp only at w2
  obtain ⟨hPa, hDa⟩ := hJn (w1 := [(m0, .inr (11, oX11 ra y3))]) hk1 ht hP1 hD1
  clear hP hD hPc hDc hFc hJn hP1 hD1 hk1
  have hP : va_P (dC, dI) vwCl [(ra 13, .inl (kI, 700, .inl q_tape)), (m0, .inr (11, oX11 ra y3))] H := hPa
  have hD : va_D A [(ra 13, .inl (kI, 700, .inl q_tape)), (m0, .inr (11, oX11 ra y3))] := hDa
  clear hPa hDa
  refine W.widen (k := 0) (n := 0) (Nat.le_of_ble_eq_true rfl) (Nat.le_of_ble_eq_true rfl) ?_
  have hv9 := w2.2
  refine lv_istore_n (lv' := [(3, .int r1), (0, .ref m0), (1, .int 0), (2, .int 15)]) hx hb dX11_readNumber_6 rfl hl (Nat.le_of_ble_eq_true rfl) rfl (fun ls hl => ?_)
  refine lv_aload_n hx hb dX11_readNumber_7 rfl (lv_at hl 1 rfl) ?_
  refine va_get (D := (dC, dI)) (ci := 11) (v := .int (y3 8)) (C := RX11) (T := TX11) (N := 61) hx hb hts hin11 hown hK hP 1 rfl rfl 22 (Nat.le_of_ble_eq_true rfl) hw_0 (fun _ h9 => h9) rfl dX11_readNumber_8 ?_
  refine lv_if_ne (tgt := 18) hx hb dX11_readNumber_11 rfl (fun c12 => ?_) (fun c12 => ?_)
  · have b13 : iv 1 5 (y3 8) := iv_neLo c12 (hq4 8 : iv 0 5 (y3 8)) ivk_0 (by decide) (by decide)
    refine lv_iload_n hx hb dX11_readNumber_18 rfl (lv_at hl 0 rfl) ?_
    have hPD9 := cl_s (wc := [(m0, .inr (11, oX11 ra y3)), (ra 13, .inl (kI, 700, .inl q_tape))]) hP hD [1, 0] rfl (by decide +kernel)
    have hP9 := hPD9.1
    have hD9 := hPD9.2
    exact W.iret (v := r1) hx hb hr (fun t ht hW => ⟨⟨r1, (), rfl, ⟨w2.1, hv9⟩, y3, hq4, (show (x0 2).toInt ≤ (y3 2).toInt from by omega), (show y3 3 = x0 3 from hq6), (show RRd tT nN y3 (nextT tT nN (numT tT 0 15 sS)) from rr_stepN hq7 c12), (show y3 1 = x0 1 from hq8), (show y3 10 = x0 10 from hq9), (show y3 11 = x0 11 from hq10), (show y3 14 = x0 14 from hq11), by rw [ht]; exact hP9, hD9⟩, hS.F ht⟩) hS.2.2 dX11_readNumber_19
  · have b14 : iv 0 0 (y3 8) := iv_eqL c12 ivk_0
    refine lv_aload_n hx hb dX11_readNumber_14 rfl (lv_at hl 1 rfl) ?_
    obtain ⟨hPc, hDc, hFc, hJn⟩ := cl_a (wc := [(m0, .inr (11, oX11 ra y3)), (ra 13, .inl (kI, 700, .inl q_tape))]) (wr := []) hP hD hS hA [1, 0] [] rfl rfl (by decide +kernel)
    refine va_callv (va_runV (As := []) (rest := []) ⟨hx, hb, hml, hown, hts⟩ (s11_stepOn l dC dI kB kI kJ kZ kC kS H.size m0 ra y3 q_tape tT nN (nextT tT nN (numT tT 0 15 sS)) (hq4) (hq_tape) (hq7.2) (stp_of hq7) (hTQ)) (cwV 0 hts gX11_readNumber_X11_stepOn rfl rfl rfl (by decide +kernel) ⟨Nat.le_of_ble_eq_true rfl, Nat.le_of_ble_eq_true rfl⟩) ⟨fun a U g mk q => by obtain ⟨q0, q1, qP, qE, qD⟩ := q; exact ⟨q0, q1, qP, kE_call qE, qD⟩, va_recv hK hP (ci := 11) (q0 := 1) rfl rfl, fun U hU hW => ⟨rfl, by rw [hU], by rw [hU]; exact hPc, kE_warm hW hE, hDc.weaken (fun _ _ _ _ => trivial)⟩⟩ rfl rfl hl.1 rfl (lv_room (Nat.le_of_ble_eq_true rfl)) dX11_readNumber_15 ⟨Nat.le_of_ble_eq_true rfl, Nat.le_of_ble_eq_true rfl⟩) hS (fun q _ h => hFc q h) hFc (fun u t H locs ht hvm w16 hB hz1 hk1 hS => ?_)
    obtain ⟨y17, hq18, hq19, hq20, hq21, hq22, hq23, hq24, hq25, hq26, hP1, hD1⟩ := hB
    try dsimp only at w16
    obtain ⟨hPa, hDa⟩ := hJn (w1 := [(m0, .inr (11, oX11 ra y17)), (ra 13, .inl (kI, 700, .inl q_tape))]) hk1 ht hP1 hD1
    clear hP hD hPc hDc hFc hJn hP1 hD1 hk1
    have hP : va_P (dC, dI) vwCl [(m0, .inr (11, oX11 ra y17)), (ra 13, .inl (kI, 700, .inl q_tape))] H := hPa
    have hD : va_D A [(m0, .inr (11, oX11 ra y17)), (ra 13, .inl (kI, 700, .inl q_tape))] := hDa
    clear hPa hDa
    refine W.widen (k := 0) (n := 0) (Nat.le_of_ble_eq_true rfl) (Nat.le_of_ble_eq_true rfl) ?_
    refine lv_iload_n hx hb dX11_readNumber_18 rfl (lv_at hl 0 rfl) ?_
    have hP9 := hP
    have hD9 := hD
    exact W.iret (v := r1) hx hb hr (fun t ht hW => ⟨⟨r1, (), rfl, ⟨w2.1, hv9⟩, y17, hq18, (show (x0 2).toInt ≤ (y17 2).toInt from by omega), (show y17 3 = x0 3 from hq20.trans (hq6)), (show RRd tT nN y17 (nextT tT nN (numT tT 0 15 sS)) from hq22), (show y17 1 = x0 1 from hq23.trans (hq8)), (show y17 10 = x0 10 from hq24.trans (hq9)), (show y17 11 = x0 11 from hq25.trans (hq10)), (show y17 14 = x0 14 from hq26.trans (hq11)), by rw [ht]; exact hP9, hD9⟩, hS.F ht⟩) hS.2.2 dX11_readNumber_19
def rm_s11_readNumber_1_60 : Room := { frames := 2, cells := 0, slots := 0, locals := 43 }
set_option maxHeartbeats 4000000 in
set_option maxRecDepth 100000 in
theorem s11_readNumber_1_60 (l : Launch) (dC : Nat → ClassId) (dI : Nat → Nat → Nat) (kB kI kJ kZ kC kS : ClassId) (sz : Nat) (m0 : Nat) (ra : Nat → Nat) (x0 : Nat → Int32) (q_tape : Nat → Int32) (tT : Nat → Int32) (nN : Int32) (sS : StT) (hX : fI lX11 hX11 x0) (hq_tape : fI (fun _ => 0) (fun _ => 255) q_tape) (hRr : RRd tT nN x0 sS) (hTQ : tT = q_tape) : Met l yX11_readNumber wsX11_readNumber rm_s11_readNumber_1_60 (va_Pc [.ref m0, .int 1, .int 60] (fun U => U.heap.size = sz ∧ va_P (dC, dI) vwCl [(m0, .inr (11, oX11 ra x0)), (ra 13, .inl (kI, 700, .inl q_tape))] U.heap ∧ kE dC dI kB kI kJ kZ kC kS U ∧ va_D (fun _ => True) [(m0, .inr (11, oX11 ra x0)), (ra 13, .inl (kI, 700, .inl q_tape))])) (va_Qi (fun (r : Int32) (_ : Unit) => iv 1 60 r ∧ (okT (numT tT 1 60 sS) → r = valS tT sS)) (fun _ t => ∃ (x0' : Nat → Int32), fI lX11 hX11 x0' ∧ ((x0 2).toInt ≤ (x0' 2).toInt) ∧ (x0' 3 = x0 3) ∧ (RRd tT nN x0' (nextT tT nN (numT tT 1 60 sS))) ∧ (x0' 1 = x0 1) ∧ (x0' 10 = x0 10) ∧ (x0' 11 = x0 11) ∧ (x0' 14 = x0 14) ∧ va_P (dC, dI) vwCl [(m0, .inr (11, oX11 ra x0')), (ra 13, .inl (kI, 700, .inl q_tape))] t.heap ∧ va_D (va_A [(m0, .inr (11, oX11 ra x0)), (ra 13, .inl (kI, 700, .inl q_tape))] sz) [(m0, .inr (11, oX11 ra x0')), (ra 13, .inl (kI, 700, .inl q_tape))]) (va_A [(m0, .inr (11, oX11 ra x0)), (ra 13, .inl (kI, 700, .inl q_tape))] sz)) 0 0 (va_A [(m0, .inr (11, oX11 ra x0)), (ra 13, .inl (kI, 700, .inl q_tape))] sz) := by
  refine Met.ofW (cc := cX11_readNumber) (maxL := 4) (ret := (some .int)) (by decide) rfl ?_
  intro p e s m args0 below meth c s₁ B hml hv
  obtain ⟨hargs, hsz, hP, hE, hD0⟩ := hv
  have hx := B.exec
  have hb := B.bytes
  have hr := B.returns
  have hts := atoms_spec (ws := wsX11_readNumber) B.pre
  have hown : s.vm.findClass RX11 = some m.cls := findClass_of_methodNamed B.named
  have hlocks := B.notSynchronized
  have hK := hE.1
  have hin11 : ∀ w ∈ wsX110, w ∈ wsX11_readNumber := fun _ h9 => List.mem_cons_of_mem _ (List.mem_append_right _ h9)
  have hw_0 := hts (.fieldLink RX11 184 "PathProberModel" "bad" "I") (List.mem_of_getElem? (i := 1) rfl)
  subst hsz
  have hD := hD0.self (sz := s.heap.size)
  generalize hAe : va_A [(m0, .inr (11, oX11 ra x0)), (ra 13, .inl (kI, 700, .inl q_tape))] s.heap.size = A at hD ⊢
  have hA : ∀ q : Nat, s.heap.size ≤ q → A q := fun q h => by rw [← hAe]; exact Or.inr h
  have hS : va_S A s.heap s.heap [] := va_S.rf
  have hP : va_P (dC, dI) vwCl [(m0, .inr (11, oX11 ra x0)), (ra 13, .inl (kI, 700, .inl q_tape))] s.heap := hP
  have hl := lv_entry ([.ref m0, .int 1, .int 60]) (n := 4) (Nat.le_of_ble_eq_true rfl)
  have hla : entryFrame m args0 4 = entryFrame m ([.ref m0, .int 1, .int 60] : List Value).toArray 4 := by rw [hargs]
  rw [hla, lg_entry_eq]
  generalize (lg_sl ([.ref m0, .int 1, .int 60]) ++ List.replicate (4 - (lg_sl ([.ref m0, .int 1, .int 60])).length) Slot.unset).toArray = ls at hl ⊢
  have hl : lv_has ls 4 [(0, .ref m0), (1, .int 1), (2, .int 60)] := hl
  refine lv_aload_n hx hb dX11_readNumber_0 rfl (lv_at hl 0 rfl) ?_
  refine lv_iload_n hx hb dX11_readNumber_1 rfl (lv_at hl 1 rfl) ?_
  refine lv_iload_n hx hb dX11_readNumber_2 rfl (lv_at hl 2 rfl) ?_
  obtain ⟨hPc, hDc, hFc, hJn⟩ := cl_a (wc := [(m0, .inr (11, oX11 ra x0))]) (wr := [(ra 13, .inl (kI, 700, .inl q_tape))]) hP hD hS hA [0] [1] rfl rfl (by decide +kernel)
  refine va_calli (va_runV (As := [.int 1, .int 60]) (rest := []) ⟨hx, hb, hml, hown, hts⟩ (s11_numberNow_1_60 l dC dI kB kI kJ kZ kC kS s.heap.size m0 ra x0 tT nN sS (hX) (hRr)) (cwV 2 hts gX11_readNumber_X11_numberNow rfl rfl rfl (by decide +kernel) ⟨Nat.le_of_ble_eq_true rfl, Nat.le_of_ble_eq_true rfl⟩) ⟨fun a U g mk q => by obtain ⟨q0, q1, qP, qE, qD⟩ := q; exact ⟨q0, q1, qP, kE_call qE, qD⟩, va_recv hK hP (ci := 11) (q0 := 0) rfl rfl, fun U hU hW => ⟨rfl, by rw [hU], by rw [hU]; exact hPc, kE_warm hW hE, hDc.weaken (fun _ _ _ _ => trivial)⟩⟩ rfl rfl hl.1 rfl (lv_room (Nat.le_of_ble_eq_true rfl)) dX11_readNumber_3 ⟨Nat.le_of_ble_eq_true rfl, Nat.le_of_ble_eq_true rfl⟩) hS (fun q _ h => hFc q h) hFc (fun r1 u t H locs ht hvm w2 hB hz1 hk1 hS => ?_)
  obtain ⟨y3, hq4, hq5, hq6, hq7, hq8, hq9, hq10, hq11, hP1, hD1⟩ := hB
  try dsimp only at w2
  obtain ⟨hPa, hDa⟩ := hJn (w1 := [(m0, .inr (11, oX11 ra y3))]) hk1 ht hP1 hD1
  clear hP hD hPc hDc hFc hJn hP1 hD1 hk1
  have hP : va_P (dC, dI) vwCl [(ra 13, .inl (kI, 700, .inl q_tape)), (m0, .inr (11, oX11 ra y3))] H := hPa
  have hD : va_D A [(ra 13, .inl (kI, 700, .inl q_tape)), (m0, .inr (11, oX11 ra y3))] := hDa
  clear hPa hDa
  refine W.widen (k := 0) (n := 0) (Nat.le_of_ble_eq_true rfl) (Nat.le_of_ble_eq_true rfl) ?_
  have hv9 := w2.2
  refine lv_istore_n (lv' := [(3, .int r1), (0, .ref m0), (1, .int 1), (2, .int 60)]) hx hb dX11_readNumber_6 rfl hl (Nat.le_of_ble_eq_true rfl) rfl (fun ls hl => ?_)
  refine lv_aload_n hx hb dX11_readNumber_7 rfl (lv_at hl 1 rfl) ?_
  refine va_get (D := (dC, dI)) (ci := 11) (v := .int (y3 8)) (C := RX11) (T := TX11) (N := 61) hx hb hts hin11 hown hK hP 1 rfl rfl 22 (Nat.le_of_ble_eq_true rfl) hw_0 (fun _ h9 => h9) rfl dX11_readNumber_8 ?_
  refine lv_if_ne (tgt := 18) hx hb dX11_readNumber_11 rfl (fun c12 => ?_) (fun c12 => ?_)
  · have b13 : iv 1 5 (y3 8) := iv_neLo c12 (hq4 8 : iv 0 5 (y3 8)) ivk_0 (by decide) (by decide)
    refine lv_iload_n hx hb dX11_readNumber_18 rfl (lv_at hl 0 rfl) ?_
    have hPD9 := cl_s (wc := [(m0, .inr (11, oX11 ra y3)), (ra 13, .inl (kI, 700, .inl q_tape))]) hP hD [1, 0] rfl (by decide +kernel)
    have hP9 := hPD9.1
    have hD9 := hPD9.2
    exact W.iret (v := r1) hx hb hr (fun t ht hW => ⟨⟨r1, (), rfl, ⟨w2.1, hv9⟩, y3, hq4, (show (x0 2).toInt ≤ (y3 2).toInt from by omega), (show y3 3 = x0 3 from hq6), (show RRd tT nN y3 (nextT tT nN (numT tT 1 60 sS)) from rr_stepN hq7 c12), (show y3 1 = x0 1 from hq8), (show y3 10 = x0 10 from hq9), (show y3 11 = x0 11 from hq10), (show y3 14 = x0 14 from hq11), by rw [ht]; exact hP9, hD9⟩, hS.F ht⟩) hS.2.2 dX11_readNumber_19
  · have b14 : iv 0 0 (y3 8) := iv_eqL c12 ivk_0
    refine lv_aload_n hx hb dX11_readNumber_14 rfl (lv_at hl 1 rfl) ?_
    obtain ⟨hPc, hDc, hFc, hJn⟩ := cl_a (wc := [(m0, .inr (11, oX11 ra y3)), (ra 13, .inl (kI, 700, .inl q_tape))]) (wr := []) hP hD hS hA [1, 0] [] rfl rfl (by decide +kernel)
    refine va_callv (va_runV (As := []) (rest := []) ⟨hx, hb, hml, hown, hts⟩ (s11_stepOn l dC dI kB kI kJ kZ kC kS H.size m0 ra y3 q_tape tT nN (nextT tT nN (numT tT 1 60 sS)) (hq4) (hq_tape) (hq7.2) (stp_of hq7) (hTQ)) (cwV 0 hts gX11_readNumber_X11_stepOn rfl rfl rfl (by decide +kernel) ⟨Nat.le_of_ble_eq_true rfl, Nat.le_of_ble_eq_true rfl⟩) ⟨fun a U g mk q => by obtain ⟨q0, q1, qP, qE, qD⟩ := q; exact ⟨q0, q1, qP, kE_call qE, qD⟩, va_recv hK hP (ci := 11) (q0 := 1) rfl rfl, fun U hU hW => ⟨rfl, by rw [hU], by rw [hU]; exact hPc, kE_warm hW hE, hDc.weaken (fun _ _ _ _ => trivial)⟩⟩ rfl rfl hl.1 rfl (lv_room (Nat.le_of_ble_eq_true rfl)) dX11_readNumber_15 ⟨Nat.le_of_ble_eq_true rfl, Nat.le_of_ble_eq_true rfl⟩) hS (fun q _ h => hFc q h) hFc (fun u t H locs ht hvm w16 hB hz1 hk1 hS => ?_)
    obtain ⟨y17, hq18, hq19, hq20, hq21, hq22, hq23, hq24, hq25, hq26, hP1, hD1⟩ := hB
    try dsimp only at w16
    obtain ⟨hPa, hDa⟩ := hJn (w1 := [(m0, .inr (11, oX11 ra y17)), (ra 13, .inl (kI, 700, .inl q_tape))]) hk1 ht hP1 hD1
    clear hP hD hPc hDc hFc hJn hP1 hD1 hk1
    have hP : va_P (dC, dI) vwCl [(m0, .inr (11, oX11 ra y17)), (ra 13, .inl (kI, 700, .inl q_tape))] H := hPa
    have hD : va_D A [(m0, .inr (11, oX11 ra y17)), (ra 13, .inl (kI, 700, .inl q_tape))] := hDa
    clear hPa hDa
    refine W.widen (k := 0) (n := 0) (Nat.le_of_ble_eq_true rfl) (Nat.le_of_ble_eq_true rfl) ?_
    refine lv_iload_n hx hb dX11_readNumber_18 rfl (lv_at hl 0 rfl) ?_
    have hP9 := hP
    have hD9 := hD
    exact W.iret (v := r1) hx hb hr (fun t ht hW => ⟨⟨r1, (), rfl, ⟨w2.1, hv9⟩, y17, hq18, (show (x0 2).toInt ≤ (y17 2).toInt from by omega), (show y17 3 = x0 3 from hq20.trans (hq6)), (show RRd tT nN y17 (nextT tT nN (numT tT 1 60 sS)) from hq22), (show y17 1 = x0 1 from hq23.trans (hq8)), (show y17 10 = x0 10 from hq24.trans (hq9)), (show y17 11 = x0 11 from hq25.trans (hq10)), (show y17 14 = x0 14 from hq26.trans (hq11)), by rw [ht]; exact hP9, hD9⟩, hS.F ht⟩) hS.2.2 dX11_readNumber_19
def rm_s11_readNumber_1_50 : Room := { frames := 2, cells := 0, slots := 0, locals := 43 }
set_option maxHeartbeats 4000000 in
set_option maxRecDepth 100000 in
theorem s11_readNumber_1_50 (l : Launch) (dC : Nat → ClassId) (dI : Nat → Nat → Nat) (kB kI kJ kZ kC kS : ClassId) (sz : Nat) (m0 : Nat) (ra : Nat → Nat) (x0 : Nat → Int32) (q_tape : Nat → Int32) (tT : Nat → Int32) (nN : Int32) (sS : StT) (hX : fI lX11 hX11 x0) (hq_tape : fI (fun _ => 0) (fun _ => 255) q_tape) (hRr : RRd tT nN x0 sS) (hTQ : tT = q_tape) : Met l yX11_readNumber wsX11_readNumber rm_s11_readNumber_1_50 (va_Pc [.ref m0, .int 1, .int 50] (fun U => U.heap.size = sz ∧ va_P (dC, dI) vwCl [(m0, .inr (11, oX11 ra x0)), (ra 13, .inl (kI, 700, .inl q_tape))] U.heap ∧ kE dC dI kB kI kJ kZ kC kS U ∧ va_D (fun _ => True) [(m0, .inr (11, oX11 ra x0)), (ra 13, .inl (kI, 700, .inl q_tape))])) (va_Qi (fun (r : Int32) (_ : Unit) => iv 1 50 r ∧ (okT (numT tT 1 50 sS) → r = valS tT sS)) (fun _ t => ∃ (x0' : Nat → Int32), fI lX11 hX11 x0' ∧ ((x0 2).toInt ≤ (x0' 2).toInt) ∧ (x0' 3 = x0 3) ∧ (RRd tT nN x0' (nextT tT nN (numT tT 1 50 sS))) ∧ (x0' 1 = x0 1) ∧ (x0' 10 = x0 10) ∧ (x0' 11 = x0 11) ∧ (x0' 14 = x0 14) ∧ va_P (dC, dI) vwCl [(m0, .inr (11, oX11 ra x0')), (ra 13, .inl (kI, 700, .inl q_tape))] t.heap ∧ va_D (va_A [(m0, .inr (11, oX11 ra x0)), (ra 13, .inl (kI, 700, .inl q_tape))] sz) [(m0, .inr (11, oX11 ra x0')), (ra 13, .inl (kI, 700, .inl q_tape))]) (va_A [(m0, .inr (11, oX11 ra x0)), (ra 13, .inl (kI, 700, .inl q_tape))] sz)) 0 0 (va_A [(m0, .inr (11, oX11 ra x0)), (ra 13, .inl (kI, 700, .inl q_tape))] sz) := by
  refine Met.ofW (cc := cX11_readNumber) (maxL := 4) (ret := (some .int)) (by decide) rfl ?_
  intro p e s m args0 below meth c s₁ B hml hv
  obtain ⟨hargs, hsz, hP, hE, hD0⟩ := hv
  have hx := B.exec
  have hb := B.bytes
  have hr := B.returns
  have hts := atoms_spec (ws := wsX11_readNumber) B.pre
  have hown : s.vm.findClass RX11 = some m.cls := findClass_of_methodNamed B.named
  have hlocks := B.notSynchronized
  have hK := hE.1
  have hin11 : ∀ w ∈ wsX110, w ∈ wsX11_readNumber := fun _ h9 => List.mem_cons_of_mem _ (List.mem_append_right _ h9)
  have hw_0 := hts (.fieldLink RX11 184 "PathProberModel" "bad" "I") (List.mem_of_getElem? (i := 1) rfl)
  subst hsz
  have hD := hD0.self (sz := s.heap.size)
  generalize hAe : va_A [(m0, .inr (11, oX11 ra x0)), (ra 13, .inl (kI, 700, .inl q_tape))] s.heap.size = A at hD ⊢
  have hA : ∀ q : Nat, s.heap.size ≤ q → A q := fun q h => by rw [← hAe]; exact Or.inr h
  have hS : va_S A s.heap s.heap [] := va_S.rf
  have hP : va_P (dC, dI) vwCl [(m0, .inr (11, oX11 ra x0)), (ra 13, .inl (kI, 700, .inl q_tape))] s.heap := hP
  have hl := lv_entry ([.ref m0, .int 1, .int 50]) (n := 4) (Nat.le_of_ble_eq_true rfl)
  have hla : entryFrame m args0 4 = entryFrame m ([.ref m0, .int 1, .int 50] : List Value).toArray 4 := by rw [hargs]
  rw [hla, lg_entry_eq]
  generalize (lg_sl ([.ref m0, .int 1, .int 50]) ++ List.replicate (4 - (lg_sl ([.ref m0, .int 1, .int 50])).length) Slot.unset).toArray = ls at hl ⊢
  have hl : lv_has ls 4 [(0, .ref m0), (1, .int 1), (2, .int 50)] := hl
  refine lv_aload_n hx hb dX11_readNumber_0 rfl (lv_at hl 0 rfl) ?_
  refine lv_iload_n hx hb dX11_readNumber_1 rfl (lv_at hl 1 rfl) ?_
  refine lv_iload_n hx hb dX11_readNumber_2 rfl (lv_at hl 2 rfl) ?_
  obtain ⟨hPc, hDc, hFc, hJn⟩ := cl_a (wc := [(m0, .inr (11, oX11 ra x0))]) (wr := [(ra 13, .inl (kI, 700, .inl q_tape))]) hP hD hS hA [0] [1] rfl rfl (by decide +kernel)
  refine va_calli (va_runV (As := [.int 1, .int 50]) (rest := []) ⟨hx, hb, hml, hown, hts⟩ (s11_numberNow_1_50 l dC dI kB kI kJ kZ kC kS s.heap.size m0 ra x0 tT nN sS (hX) (hRr)) (cwV 2 hts gX11_readNumber_X11_numberNow rfl rfl rfl (by decide +kernel) ⟨Nat.le_of_ble_eq_true rfl, Nat.le_of_ble_eq_true rfl⟩) ⟨fun a U g mk q => by obtain ⟨q0, q1, qP, qE, qD⟩ := q; exact ⟨q0, q1, qP, kE_call qE, qD⟩, va_recv hK hP (ci := 11) (q0 := 0) rfl rfl, fun U hU hW => ⟨rfl, by rw [hU], by rw [hU]; exact hPc, kE_warm hW hE, hDc.weaken (fun _ _ _ _ => trivial)⟩⟩ rfl rfl hl.1 rfl (lv_room (Nat.le_of_ble_eq_true rfl)) dX11_readNumber_3 ⟨Nat.le_of_ble_eq_true rfl, Nat.le_of_ble_eq_true rfl⟩) hS (fun q _ h => hFc q h) hFc (fun r1 u t H locs ht hvm w2 hB hz1 hk1 hS => ?_)
  obtain ⟨y3, hq4, hq5, hq6, hq7, hq8, hq9, hq10, hq11, hP1, hD1⟩ := hB
  try dsimp only at w2
  obtain ⟨hPa, hDa⟩ := hJn (w1 := [(m0, .inr (11, oX11 ra y3))]) hk1 ht hP1 hD1
  clear hP hD hPc hDc hFc hJn hP1 hD1 hk1
  have hP : va_P (dC, dI) vwCl [(ra 13, .inl (kI, 700, .inl q_tape)), (m0, .inr (11, oX11 ra y3))] H := hPa
  have hD : va_D A [(ra 13, .inl (kI, 700, .inl q_tape)), (m0, .inr (11, oX11 ra y3))] := hDa
  clear hPa hDa
  refine W.widen (k := 0) (n := 0) (Nat.le_of_ble_eq_true rfl) (Nat.le_of_ble_eq_true rfl) ?_
  have hv9 := w2.2
  refine lv_istore_n (lv' := [(3, .int r1), (0, .ref m0), (1, .int 1), (2, .int 50)]) hx hb dX11_readNumber_6 rfl hl (Nat.le_of_ble_eq_true rfl) rfl (fun ls hl => ?_)
  refine lv_aload_n hx hb dX11_readNumber_7 rfl (lv_at hl 1 rfl) ?_
  refine va_get (D := (dC, dI)) (ci := 11) (v := .int (y3 8)) (C := RX11) (T := TX11) (N := 61) hx hb hts hin11 hown hK hP 1 rfl rfl 22 (Nat.le_of_ble_eq_true rfl) hw_0 (fun _ h9 => h9) rfl dX11_readNumber_8 ?_
  refine lv_if_ne (tgt := 18) hx hb dX11_readNumber_11 rfl (fun c12 => ?_) (fun c12 => ?_)
  · have b13 : iv 1 5 (y3 8) := iv_neLo c12 (hq4 8 : iv 0 5 (y3 8)) ivk_0 (by decide) (by decide)
    refine lv_iload_n hx hb dX11_readNumber_18 rfl (lv_at hl 0 rfl) ?_
    have hPD9 := cl_s (wc := [(m0, .inr (11, oX11 ra y3)), (ra 13, .inl (kI, 700, .inl q_tape))]) hP hD [1, 0] rfl (by decide +kernel)
    have hP9 := hPD9.1
    have hD9 := hPD9.2
    exact W.iret (v := r1) hx hb hr (fun t ht hW => ⟨⟨r1, (), rfl, ⟨w2.1, hv9⟩, y3, hq4, (show (x0 2).toInt ≤ (y3 2).toInt from by omega), (show y3 3 = x0 3 from hq6), (show RRd tT nN y3 (nextT tT nN (numT tT 1 50 sS)) from rr_stepN hq7 c12), (show y3 1 = x0 1 from hq8), (show y3 10 = x0 10 from hq9), (show y3 11 = x0 11 from hq10), (show y3 14 = x0 14 from hq11), by rw [ht]; exact hP9, hD9⟩, hS.F ht⟩) hS.2.2 dX11_readNumber_19
  · have b14 : iv 0 0 (y3 8) := iv_eqL c12 ivk_0
    refine lv_aload_n hx hb dX11_readNumber_14 rfl (lv_at hl 1 rfl) ?_
    obtain ⟨hPc, hDc, hFc, hJn⟩ := cl_a (wc := [(m0, .inr (11, oX11 ra y3)), (ra 13, .inl (kI, 700, .inl q_tape))]) (wr := []) hP hD hS hA [1, 0] [] rfl rfl (by decide +kernel)
    refine va_callv (va_runV (As := []) (rest := []) ⟨hx, hb, hml, hown, hts⟩ (s11_stepOn l dC dI kB kI kJ kZ kC kS H.size m0 ra y3 q_tape tT nN (nextT tT nN (numT tT 1 50 sS)) (hq4) (hq_tape) (hq7.2) (stp_of hq7) (hTQ)) (cwV 0 hts gX11_readNumber_X11_stepOn rfl rfl rfl (by decide +kernel) ⟨Nat.le_of_ble_eq_true rfl, Nat.le_of_ble_eq_true rfl⟩) ⟨fun a U g mk q => by obtain ⟨q0, q1, qP, qE, qD⟩ := q; exact ⟨q0, q1, qP, kE_call qE, qD⟩, va_recv hK hP (ci := 11) (q0 := 1) rfl rfl, fun U hU hW => ⟨rfl, by rw [hU], by rw [hU]; exact hPc, kE_warm hW hE, hDc.weaken (fun _ _ _ _ => trivial)⟩⟩ rfl rfl hl.1 rfl (lv_room (Nat.le_of_ble_eq_true rfl)) dX11_readNumber_15 ⟨Nat.le_of_ble_eq_true rfl, Nat.le_of_ble_eq_true rfl⟩) hS (fun q _ h => hFc q h) hFc (fun u t H locs ht hvm w16 hB hz1 hk1 hS => ?_)
    obtain ⟨y17, hq18, hq19, hq20, hq21, hq22, hq23, hq24, hq25, hq26, hP1, hD1⟩ := hB
    try dsimp only at w16
    obtain ⟨hPa, hDa⟩ := hJn (w1 := [(m0, .inr (11, oX11 ra y17)), (ra 13, .inl (kI, 700, .inl q_tape))]) hk1 ht hP1 hD1
    clear hP hD hPc hDc hFc hJn hP1 hD1 hk1
    have hP : va_P (dC, dI) vwCl [(m0, .inr (11, oX11 ra y17)), (ra 13, .inl (kI, 700, .inl q_tape))] H := hPa
    have hD : va_D A [(m0, .inr (11, oX11 ra y17)), (ra 13, .inl (kI, 700, .inl q_tape))] := hDa
    clear hPa hDa
    refine W.widen (k := 0) (n := 0) (Nat.le_of_ble_eq_true rfl) (Nat.le_of_ble_eq_true rfl) ?_
    refine lv_iload_n hx hb dX11_readNumber_18 rfl (lv_at hl 0 rfl) ?_
    have hP9 := hP
    have hD9 := hD
    exact W.iret (v := r1) hx hb hr (fun t ht hW => ⟨⟨r1, (), rfl, ⟨w2.1, hv9⟩, y17, hq18, (show (x0 2).toInt ≤ (y17 2).toInt from by omega), (show y17 3 = x0 3 from hq20.trans (hq6)), (show RRd tT nN y17 (nextT tT nN (numT tT 1 50 sS)) from hq22), (show y17 1 = x0 1 from hq23.trans (hq8)), (show y17 10 = x0 10 from hq24.trans (hq9)), (show y17 11 = x0 11 from hq25.trans (hq10)), (show y17 14 = x0 14 from hq26.trans (hq11)), by rw [ht]; exact hP9, hD9⟩, hS.F ht⟩) hS.2.2 dX11_readNumber_19
def rm_s11_routerNow : Room := { frames := 2, cells := 0, slots := 0, locals := 43 }
set_option maxHeartbeats 4000000 in
set_option maxRecDepth 100000 in
theorem s11_routerNow (l : Launch) (dC : Nat → ClassId) (dI : Nat → Nat → Nat) (kB kI kJ kZ kC kS : ClassId) (sz : Nat) (m0 : Nat) (ra : Nat → Nat) (x0 : Nat → Int32) (q_told : Nat → Int32) (tT : Nat → Int32) (nN : Int32) (sS : StT) (hX : fI lX11 hX11 x0) (hq_told : fI lTold hTold q_told) (hRr : RRd tT nN x0 sS) : Met l yX11_routerNow wsX11_routerNow rm_s11_routerNow (va_Pc [.ref m0] (fun U => U.heap.size = sz ∧ va_P (dC, dI) vwCl [(m0, .inr (11, oX11 ra x0)), (ra 2, .inl (kI, 8, .inl q_told))] U.heap ∧ kE dC dI kB kI kJ kZ kC kS U ∧ va_D (fun _ => True) [(m0, .inr (11, oX11 ra x0)), (ra 2, .inl (kI, 8, .inl q_told))])) (va_Qi (fun (r : Int32) (_ : Unit) => iv 0 11 r ∧ (okT (rouT tT (q_told 4) sS) → r = valS tT sS)) (fun _ t => ∃ (x0' : Nat → Int32), fI lX11 hX11 x0' ∧ ((x0' 2).toInt = (x0 2).toInt) ∧ (x0' 3 = x0 3) ∧ (RRd tT nN x0' (rouT tT (q_told 4) sS)) ∧ (x0' 1 = x0 1) ∧ (x0' 10 = x0 10) ∧ (x0' 11 = x0 11) ∧ (x0' 14 = x0 14) ∧ va_P (dC, dI) vwCl [(m0, .inr (11, oX11 ra x0')), (ra 2, .inl (kI, 8, .inl q_told))] t.heap ∧ va_D (va_A [(m0, .inr (11, oX11 ra x0)), (ra 2, .inl (kI, 8, .inl q_told))] sz) [(m0, .inr (11, oX11 ra x0')), (ra 2, .inl (kI, 8, .inl q_told))]) (va_A [(m0, .inr (11, oX11 ra x0)), (ra 2, .inl (kI, 8, .inl q_told))] sz)) 0 0 (va_A [(m0, .inr (11, oX11 ra x0)), (ra 2, .inl (kI, 8, .inl q_told))] sz) := by
  refine Met.ofW (cc := cX11_routerNow) (maxL := 2) (ret := (some .int)) (by decide) rfl ?_
  intro p e s m args0 below meth c s₁ B hml hv
  obtain ⟨hargs, hsz, hP, hE, hD0⟩ := hv
  have hx := B.exec
  have hb := B.bytes
  have hr := B.returns
  have hts := atoms_spec (ws := wsX11_routerNow) B.pre
  have hown : s.vm.findClass RX11 = some m.cls := findClass_of_methodNamed B.named
  have hlocks := B.notSynchronized
  have hK := hE.1
  have hin11 : ∀ w ∈ wsX110, w ∈ wsX11_routerNow := fun _ h9 => List.mem_cons_of_mem _ (List.mem_append_right _ h9)
  have hw_0 := hts (.fieldLink RX11 184 "PathProberModel" "bad" "I") (List.mem_of_getElem? (i := 1) rfl)
  have hw_1 := hts (.fieldLink RX11 34 "PathProberModel" "told" "[I") (List.mem_of_getElem? (i := 2) rfl)
  subst hsz
  have hD := hD0.self (sz := s.heap.size)
  generalize hAe : va_A [(m0, .inr (11, oX11 ra x0)), (ra 2, .inl (kI, 8, .inl q_told))] s.heap.size = A at hD ⊢
  have hA : ∀ q : Nat, s.heap.size ≤ q → A q := fun q h => by rw [← hAe]; exact Or.inr h
  have hS : va_S A s.heap s.heap [] := va_S.rf
  have hP : va_P (dC, dI) vwCl [(m0, .inr (11, oX11 ra x0)), (ra 2, .inl (kI, 8, .inl q_told))] s.heap := hP
  have hl := lv_entry ([.ref m0]) (n := 2) (Nat.le_of_ble_eq_true rfl)
  have hla : entryFrame m args0 2 = entryFrame m ([.ref m0] : List Value).toArray 2 := by rw [hargs]
  rw [hla, lg_entry_eq]
  generalize (lg_sl ([.ref m0]) ++ List.replicate (2 - (lg_sl ([.ref m0])).length) Slot.unset).toArray = ls at hl ⊢
  have hl : lv_has ls 2 [(0, .ref m0)] := hl
  refine lv_aload_n hx hb dX11_routerNow_0 rfl (lv_at hl 0 rfl) ?_
  refine lv_iconst (v := 0) hx hb dX11_routerNow_1 ic_0 ?_
  refine lv_bipush (v := 11) hx hb dX11_routerNow_2 bp_11 ?_
  obtain ⟨hPc, hDc, hFc, hJn⟩ := cl_a (wc := [(m0, .inr (11, oX11 ra x0))]) (wr := [(ra 2, .inl (kI, 8, .inl q_told))]) hP hD hS hA [0] [1] rfl rfl (by decide +kernel)
  refine va_calli (va_runV (As := [.int 0, .int 11]) (rest := []) ⟨hx, hb, hml, hown, hts⟩ (s11_numberNow_0_11 l dC dI kB kI kJ kZ kC kS s.heap.size m0 ra x0 tT nN sS (hX) (hRr)) (cwV 2 hts gX11_routerNow_X11_numberNow rfl rfl rfl (by decide +kernel) ⟨Nat.le_of_ble_eq_true rfl, Nat.le_of_ble_eq_true rfl⟩) ⟨fun a U g mk q => by obtain ⟨q0, q1, qP, qE, qD⟩ := q; exact ⟨q0, q1, qP, kE_call qE, qD⟩, va_recv hK hP (ci := 11) (q0 := 0) rfl rfl, fun U hU hW => ⟨rfl, by rw [hU], by rw [hU]; exact hPc, kE_warm hW hE, hDc.weaken (fun _ _ _ _ => trivial)⟩⟩ rfl rfl hl.1 rfl (lv_room (Nat.le_of_ble_eq_true rfl)) dX11_routerNow_4 ⟨Nat.le_of_ble_eq_true rfl, Nat.le_of_ble_eq_true rfl⟩) hS (fun q _ h => hFc q h) hFc (fun r1 u t H locs ht hvm w2 hB hz1 hk1 hS => ?_)
  obtain ⟨y3, hq4, hq5, hq6, hq7, hq8, hq9, hq10, hq11, hP1, hD1⟩ := hB
  try dsimp only at w2
  obtain ⟨hPa, hDa⟩ := hJn (w1 := [(m0, .inr (11, oX11 ra y3))]) hk1 ht hP1 hD1
  clear hP hD hPc hDc hFc hJn hP1 hD1 hk1
  have hP : va_P (dC, dI) vwCl [(ra 2, .inl (kI, 8, .inl q_told)), (m0, .inr (11, oX11 ra y3))] H := hPa
  have hD : va_D A [(ra 2, .inl (kI, 8, .inl q_told)), (m0, .inr (11, oX11 ra y3))] := hDa
  clear hPa hDa
  refine W.widen (k := 0) (n := 0) (Nat.le_of_ble_eq_true rfl) (Nat.le_of_ble_eq_true rfl) ?_
  have hv9 := w2.2
  refine lv_istore_n (lv' := [(1, .int r1), (0, .ref m0)]) hx hb dX11_routerNow_7 rfl hl (Nat.le_of_ble_eq_true rfl) rfl (fun ls hl => ?_)
  refine lv_aload_n hx hb dX11_routerNow_8 rfl (lv_at hl 1 rfl) ?_
  refine va_get (D := (dC, dI)) (ci := 11) (v := .int (y3 8)) (C := RX11) (T := TX11) (N := 61) hx hb hts hin11 hown hK hP 1 rfl rfl 22 (Nat.le_of_ble_eq_true rfl) hw_0 (fun _ h9 => h9) rfl dX11_routerNow_9 ?_
  refine lv_if_ne (tgt := 30) hx hb dX11_routerNow_12 rfl (fun c12 => ?_) (fun c12 => ?_)
  · have b13 : iv 1 5 (y3 8) := iv_neLo c12 (hq4 8 : iv 0 5 (y3 8)) ivk_0 (by decide) (by decide)
    refine lv_iload_n hx hb dX11_routerNow_30 rfl (lv_at hl 0 rfl) ?_
    have hPD9 := cl_s (wc := [(m0, .inr (11, oX11 ra y3)), (ra 2, .inl (kI, 8, .inl q_told))]) hP hD [1, 0] rfl (by decide +kernel)
    have hP9 := hPD9.1
    have hD9 := hPD9.2
    exact W.iret (v := r1) hx hb hr (fun t ht hW => ⟨⟨r1, (), rfl, ⟨w2.1, fun hk => hv9 (ok_rou hk)⟩, y3, hq4, (show (y3 2).toInt = (x0 2).toInt from by omega), (show y3 3 = x0 3 from hq6), (show RRd tT nN y3 (rouT tT (q_told 4) sS) from (rq_n hq7 hv9 (Or.inl c12)) ▸ hq7), (show y3 1 = x0 1 from hq8), (show y3 10 = x0 10 from hq9), (show y3 11 = x0 11 from hq10), (show y3 14 = x0 14 from hq11), by rw [ht]; exact hP9, hD9⟩, hS.F ht⟩) hS.2.2 dX11_routerNow_31
  · have b14 : iv 0 0 (y3 8) := iv_eqL c12 ivk_0
    refine lv_iload_n hx hb dX11_routerNow_15 rfl (lv_at hl 0 rfl) ?_
    refine lv_aload_n hx hb dX11_routerNow_16 rfl (lv_at hl 1 rfl) ?_
    refine va_get (D := (dC, dI)) (ci := 11) (v := .ref (ra 2)) (C := RX11) (T := TX11) (N := 61) hx hb hts hin11 hown hK hP 1 rfl rfl 3 (Nat.le_of_ble_eq_true rfl) hw_1 (fun _ h9 => h9) rfl dX11_routerNow_17 ?_
    refine lv_iconst (v := 4) hx hb dX11_routerNow_20 ic_4 ?_
    refine va_iald hx hb hK hP 0 1 rfl rfl (vp_in_nI (n := 4) (by decide) (by decide)) dX11_routerNow_21 ?_
    refine W.eq (g2 := F0 m 22 ls [.int (q_told 4), .int r1]) rfl ?_
    refine lv_icmp_lt (tgt := 30) hx hb dX11_routerNow_22 rfl (fun c15 => ?_) (fun c15 => ?_)
    · have b16 : iv 1 12 (q_told 4) := iv_ltR c15 w2.1 (hq_told 4 : iv 0 12 (q_told 4)) (by decide) (by decide)
      refine lv_iload_n hx hb dX11_routerNow_30 rfl (lv_at hl 0 rfl) ?_
      have hPD9 := cl_s (wc := [(m0, .inr (11, oX11 ra y3)), (ra 2, .inl (kI, 8, .inl q_told))]) hP hD [1, 0] rfl (by decide +kernel)
      have hP9 := hPD9.1
      have hD9 := hPD9.2
      exact W.iret (v := r1) hx hb hr (fun t ht hW => ⟨⟨r1, (), rfl, ⟨w2.1, fun hk => hv9 (ok_rou hk)⟩, y3, hq4, (show (y3 2).toInt = (x0 2).toInt from by omega), (show y3 3 = x0 3 from hq6), (show RRd tT nN y3 (rouT tT (q_told 4) sS) from (rq_n hq7 hv9 (Or.inr c15)) ▸ hq7), (show y3 1 = x0 1 from hq8), (show y3 10 = x0 10 from hq9), (show y3 11 = x0 11 from hq10), (show y3 14 = x0 14 from hq11), by rw [ht]; exact hP9, hD9⟩, hS.F ht⟩) hS.2.2 dX11_routerNow_31
    · have b17 : iv 0 11 (q_told 4) := iv_leL (Int32.not_lt.mp c15) (hq_told 4 : iv 0 12 (q_told 4)) w2.1 (by decide) (by decide)
      refine lv_aload_n hx hb dX11_routerNow_25 rfl (lv_at hl 1 rfl) ?_
      refine lv_iconst (v := 3) hx hb dX11_routerNow_26 ic_3 ?_
      obtain ⟨hPc, hDc, hFc, hJn⟩ := cl_a (wc := [(m0, .inr (11, oX11 ra y3))]) (wr := [(ra 2, .inl (kI, 8, .inl q_told))]) hP hD hS hA [1] [0] rfl rfl (by decide +kernel)
      refine va_callv (va_runV (As := [.int 3]) (rest := []) ⟨hx, hb, hml, hown, hts⟩ (s11_wrong l dC dI kB kI kJ kZ kC kS H.size m0 ra y3 3 tT nN (numT tT 0 11 sS) (hq4) ((iv_w ivk_3 (by decide) (by decide))) (hq7)) (cwV 1 hts gX11_routerNow_X11_wrong rfl rfl rfl (by decide +kernel) ⟨Nat.le_of_ble_eq_true rfl, Nat.le_of_ble_eq_true rfl⟩) ⟨fun a U g mk q => by obtain ⟨q0, q1, qP, qE, qD⟩ := q; exact ⟨q0, q1, qP, kE_call qE, qD⟩, va_recv hK hP (ci := 11) (q0 := 1) rfl rfl, fun U hU hW => ⟨rfl, by rw [hU], by rw [hU]; exact hPc, kE_warm hW hE, hDc.weaken (fun _ _ _ _ => trivial)⟩⟩ rfl rfl hl.1 rfl (lv_room (Nat.le_of_ble_eq_true rfl)) dX11_routerNow_27 ⟨Nat.le_of_ble_eq_true rfl, Nat.le_of_ble_eq_true rfl⟩) hS (fun q _ h => hFc q h) hFc (fun u t H locs ht hvm w19 hB hz1 hk1 hS => ?_)
      obtain ⟨y20, hq21, hq22, hq23, hq24, hq25, hq26, hq27, hq28, hq29, hP1, hD1⟩ := hB
      try dsimp only at w19
      obtain ⟨hPa, hDa⟩ := hJn (w1 := [(m0, .inr (11, oX11 ra y20))]) hk1 ht hP1 hD1
      clear hP hD hPc hDc hFc hJn hP1 hD1 hk1
      have hP : va_P (dC, dI) vwCl [(ra 2, .inl (kI, 8, .inl q_told)), (m0, .inr (11, oX11 ra y20))] H := hPa
      have hD : va_D A [(ra 2, .inl (kI, 8, .inl q_told)), (m0, .inr (11, oX11 ra y20))] := hDa
      clear hPa hDa
      refine W.widen (k := 0) (n := 0) (Nat.le_of_ble_eq_true rfl) (Nat.le_of_ble_eq_true rfl) ?_
      refine lv_iload_n hx hb dX11_routerNow_30 rfl (lv_at hl 0 rfl) ?_
      have hPD9 := cl_s (wc := [(m0, .inr (11, oX11 ra y20)), (ra 2, .inl (kI, 8, .inl q_told))]) hP hD [1, 0] rfl (by decide +kernel)
      have hP9 := hPD9.1
      have hD9 := hPD9.2
      exact W.iret (v := r1) hx hb hr (fun t ht hW => ⟨⟨r1, (), rfl, ⟨w2.1, fun hk => hv9 (ok_rou hk)⟩, y20, hq21, (show (y20 2).toInt = (x0 2).toInt from by omega), (show y20 3 = x0 3 from hq24.trans (hq6)), (show RRd tT nN y20 (rouT tT (q_told 4) sS) from (rq_f hq7 c12 hv9 (Int32.not_lt.mp c15)) ▸ hq25), (show y20 1 = x0 1 from hq26.trans (hq8)), (show y20 10 = x0 10 from hq27.trans (hq9)), (show y20 11 = x0 11 from hq28.trans (hq10)), (show y20 14 = x0 14 from hq29.trans (hq11)), by rw [ht]; exact hP9, hD9⟩, hS.F ht⟩) hS.2.2 dX11_routerNow_31
def rm_s11_readRouter : Room := { frames := 6, cells := 0, slots := 0, locals := 130 }
set_option maxHeartbeats 4000000 in
set_option maxRecDepth 100000 in
theorem s11_readRouter (l : Launch) (dC : Nat → ClassId) (dI : Nat → Nat → Nat) (kB kI kJ kZ kC kS : ClassId) (sz : Nat) (adK : Nat → Nat) (adV : Nat → Nat) (m0 : Nat) (ra : Nat → Nat) (x0 : Nat → Int32) (q_told : Nat → Int32) (q_kind : Nat → Int32) (q_salt : Nat → Int32) (q_pace : Nat → Int32) (q_mute : Nat → Int32) (q_late : Nat → Int32) (q_from : Nat → Int32) (q_to : Nat → Int32) (q_tape : Nat → Int32) (q_words : Nat → Option Nat) (q_kinds : Nat → Option Nat) (tT : Nat → Int32) (nN : Int32) (sS : StT) (hX : fI lX11 hX11 x0) (hq_told : fI lTold hTold q_told) (hq_salt : fI (fun _ => 0) (fun _ => 15) q_salt) (hq_tape : fI (fun _ => 0) (fun _ => 255) q_tape) (hLT : ∀ j : Nat, (j : Int) < (q_told 1).toInt → (q_from j).toInt < (q_to j).toInt) (hLD : ∀ j : Nat, (j : Int) < (q_told 5).toInt → (q_from (20 + j)).toInt < (q_to (20 + j)).toInt) (hwo : ∀ k, k < 4 → q_words k = some (adK (0 + k))) (hki : ∀ k, k < 4 → q_kinds k = some (adK (4 + k))) (hRr : RRd tT nN x0 sS) (hTQ : tT = q_tape) : Met l yX11_readRouter wsX11_readRouter rm_s11_readRouter (va_Pc [.ref m0] (fun U => U.heap.size = sz ∧ va_P (dC, dI) vwCl [(m0, .inr (11, oX11 ra x0)), (ra 2, .inl (kI, 8, .inl q_told)), (ra 3, .inl (kI, 24, .inl q_kind)), (ra 4, .inl (kI, 24, .inl q_salt)), (ra 5, .inl (kI, 24, .inl q_pace)), (ra 6, .inl (kI, 24, .inl q_mute)), (ra 7, .inl (kI, 24, .inl q_late)), (ra 13, .inl (kI, 700, .inl q_tape)), (ra 1, .inl (kS, 4, .inr (.inr (.inr (.inr q_kinds)))))] U.heap ∧ kE dC dI kB kI kJ kZ kC kS U ∧ va_D (fun _ => True) [(m0, .inr (11, oX11 ra x0)), (ra 2, .inl (kI, 8, .inl q_told)), (ra 3, .inl (kI, 24, .inl q_kind)), (ra 4, .inl (kI, 24, .inl q_salt)), (ra 5, .inl (kI, 24, .inl q_pace)), (ra 6, .inl (kI, 24, .inl q_mute)), (ra 7, .inl (kI, 24, .inl q_late)), (ra 13, .inl (kI, 700, .inl q_tape)), (ra 1, .inl (kS, 4, .inr (.inr (.inr (.inr q_kinds)))))] ∧ kL adK adV (va_A [(m0, .inr (11, oX11 ra x0)), (ra 2, .inl (kI, 8, .inl q_told)), (ra 3, .inl (kI, 24, .inl q_kind)), (ra 4, .inl (kI, 24, .inl q_salt)), (ra 5, .inl (kI, 24, .inl q_pace)), (ra 6, .inl (kI, 24, .inl q_mute)), (ra 7, .inl (kI, 24, .inl q_late)), (ra 13, .inl (kI, 700, .inl q_tape)), (ra 1, .inl (kS, 4, .inr (.inr (.inr (.inr q_kinds)))))] sz) U)) (va_Qv (fun (_ : Unit) => True) (fun _ t => ∃ (x0' : Nat → Int32) (q_told' : Nat → Int32) (q_kind' : Nat → Int32) (q_salt' : Nat → Int32) (q_pace' : Nat → Int32) (q_mute' : Nat → Int32) (q_late' : Nat → Int32), fI lX11 hX11 x0' ∧ fI lTold hTold q_told' ∧ fI (fun _ => 0) (fun _ => 15) q_salt' ∧ ((x0 2).toInt ≤ (x0' 2).toInt) ∧ (x0' 3 = x0 3) ∧ (∀ j : Nat, (j : Int) < (q_told' 1).toInt → (q_from j).toInt < (q_to j).toInt) ∧ (∀ j : Nat, (j : Int) < (q_told' 5).toInt → (q_from (20 + j)).toInt < (q_to (20 + j)).toInt) ∧ (RRd tT nN x0' (rtrS tT nN sS (q_told 4))) ∧ (x0' 8 = 0 → q_told' = upd q_told 4 (q_told 4 + 1) ∧ q_kind' = upd q_kind ((12 + (q_told 4)).toNatClampNeg) (kndS tT (rtr1 tT nN sS)) ∧ q_salt' = upd q_salt ((12 + (q_told 4)).toNatClampNeg) (valS tT (rtr2 tT nN sS)) ∧ q_pace' = upd q_pace ((12 + (q_told 4)).toNatClampNeg) (valS tT (rtr3 tT nN sS)) ∧ q_mute' = upd q_mute ((12 + (q_told 4)).toNatClampNeg) (wS tT 8 (rtr4 tT nN sS)) ∧ q_late' = upd q_late ((12 + (q_told 4)).toNatClampNeg) (wS tT 9 (rtr4 tT nN sS))) ∧ (LowT q_told q_from q_to q_told' q_from q_to) ∧ (Lw12 q_kind q_kind') ∧ (Lw12 q_salt q_salt') ∧ (x0' 1 = x0 1) ∧ (x0' 10 = x0 10) ∧ (x0' 11 = x0 11) ∧ (x0' 14 = x0 14) ∧ va_P (dC, dI) vwCl [(m0, .inr (11, oX11 ra x0')), (ra 2, .inl (kI, 8, .inl q_told')), (ra 3, .inl (kI, 24, .inl q_kind')), (ra 4, .inl (kI, 24, .inl q_salt')), (ra 5, .inl (kI, 24, .inl q_pace')), (ra 6, .inl (kI, 24, .inl q_mute')), (ra 7, .inl (kI, 24, .inl q_late')), (ra 13, .inl (kI, 700, .inl q_tape)), (ra 1, .inl (kS, 4, .inr (.inr (.inr (.inr q_kinds)))))] t.heap ∧ va_D (va_A [(m0, .inr (11, oX11 ra x0)), (ra 2, .inl (kI, 8, .inl q_told)), (ra 3, .inl (kI, 24, .inl q_kind)), (ra 4, .inl (kI, 24, .inl q_salt)), (ra 5, .inl (kI, 24, .inl q_pace)), (ra 6, .inl (kI, 24, .inl q_mute)), (ra 7, .inl (kI, 24, .inl q_late)), (ra 13, .inl (kI, 700, .inl q_tape)), (ra 1, .inl (kS, 4, .inr (.inr (.inr (.inr q_kinds)))))] sz) [(m0, .inr (11, oX11 ra x0')), (ra 2, .inl (kI, 8, .inl q_told')), (ra 3, .inl (kI, 24, .inl q_kind')), (ra 4, .inl (kI, 24, .inl q_salt')), (ra 5, .inl (kI, 24, .inl q_pace')), (ra 6, .inl (kI, 24, .inl q_mute')), (ra 7, .inl (kI, 24, .inl q_late')), (ra 13, .inl (kI, 700, .inl q_tape)), (ra 1, .inl (kS, 4, .inr (.inr (.inr (.inr q_kinds)))))]) (va_A [(m0, .inr (11, oX11 ra x0)), (ra 2, .inl (kI, 8, .inl q_told)), (ra 3, .inl (kI, 24, .inl q_kind)), (ra 4, .inl (kI, 24, .inl q_salt)), (ra 5, .inl (kI, 24, .inl q_pace)), (ra 6, .inl (kI, 24, .inl q_mute)), (ra 7, .inl (kI, 24, .inl q_late)), (ra 13, .inl (kI, 700, .inl q_tape)), (ra 1, .inl (kS, 4, .inr (.inr (.inr (.inr q_kinds)))))] sz)) 0 0 (va_A [(m0, .inr (11, oX11 ra x0)), (ra 2, .inl (kI, 8, .inl q_told)), (ra 3, .inl (kI, 24, .inl q_kind)), (ra 4, .inl (kI, 24, .inl q_salt)), (ra 5, .inl (kI, 24, .inl q_pace)), (ra 6, .inl (kI, 24, .inl q_mute)), (ra 7, .inl (kI, 24, .inl q_late)), (ra 13, .inl (kI, 700, .inl q_tape)), (ra 1, .inl (kS, 4, .inr (.inr (.inr (.inr q_kinds)))))] sz) := by
  refine Met.ofW (cc := cX11_readRouter) (maxL := 3) (ret := none) (by decide) rfl ?_
  intro p e s m args0 below meth c s₁ B hml hv
  obtain ⟨hargs, hsz, hP, hE, hD0, hKL⟩ := hv
  have hx := B.exec
  have hb := B.bytes
  have hr := B.returns
  have hts := atoms_spec (ws := wsX11_readRouter) B.pre
  have hown : s.vm.findClass RX11 = some m.cls := findClass_of_methodNamed B.named
  have hlocks := B.notSynchronized
  have hK := hE.1
  have hin11 : ∀ w ∈ wsX110, w ∈ wsX11_readRouter := fun _ h9 => List.mem_cons_of_mem _ (List.mem_append_right _ h9)
  have hw_0 := hts (.fieldLink RX11 34 "PathProberModel" "told" "[I") (List.mem_of_getElem? (i := 1) rfl)
  have hw_1 := hts (.fieldLink RX11 184 "PathProberModel" "bad" "I") (List.mem_of_getElem? (i := 2) rfl)
  have hw_2 := hts (.fieldLink RX11 31 "PathProberModel" "kinds" "[Ljava/lang/String;") (List.mem_of_getElem? (i := 3) rfl)
  have hw_3 := hts (.fieldLink RX11 38 "PathProberModel" "kind" "[I") (List.mem_of_getElem? (i := 4) rfl)
  have hw_4 := hts (.fieldLink RX11 41 "PathProberModel" "salt" "[I") (List.mem_of_getElem? (i := 5) rfl)
  have hw_5 := hts (.fieldLink RX11 44 "PathProberModel" "pace" "[I") (List.mem_of_getElem? (i := 6) rfl)
  have hw_6 := hts (.fieldLink RX11 47 "PathProberModel" "mute" "[I") (List.mem_of_getElem? (i := 7) rfl)
  have hw_7 := hts (.fieldLink RX11 50 "PathProberModel" "late" "[I") (List.mem_of_getElem? (i := 8) rfl)
  subst hsz
  have hD := hD0.self (sz := s.heap.size)
  generalize hAe : va_A [(m0, .inr (11, oX11 ra x0)), (ra 2, .inl (kI, 8, .inl q_told)), (ra 3, .inl (kI, 24, .inl q_kind)), (ra 4, .inl (kI, 24, .inl q_salt)), (ra 5, .inl (kI, 24, .inl q_pace)), (ra 6, .inl (kI, 24, .inl q_mute)), (ra 7, .inl (kI, 24, .inl q_late)), (ra 13, .inl (kI, 700, .inl q_tape)), (ra 1, .inl (kS, 4, .inr (.inr (.inr (.inr q_kinds)))))] s.heap.size = A at hD hKL ⊢
  have hA : ∀ q : Nat, s.heap.size ≤ q → A q := fun q h => by rw [← hAe]; exact Or.inr h
  have hS : va_S A s.heap s.heap [] := va_S.rf
  have hP : va_P (dC, dI) vwCl [(m0, .inr (11, oX11 ra x0)), (ra 2, .inl (kI, 8, .inl q_told)), (ra 3, .inl (kI, 24, .inl q_kind)), (ra 4, .inl (kI, 24, .inl q_salt)), (ra 5, .inl (kI, 24, .inl q_pace)), (ra 6, .inl (kI, 24, .inl q_mute)), (ra 7, .inl (kI, 24, .inl q_late)), (ra 13, .inl (kI, 700, .inl q_tape)), (ra 1, .inl (kS, 4, .inr (.inr (.inr (.inr q_kinds)))))] s.heap := hP
  have hl := lv_entry ([.ref m0]) (n := 3) (Nat.le_of_ble_eq_true rfl)
  have hla : entryFrame m args0 3 = entryFrame m ([.ref m0] : List Value).toArray 3 := by rw [hargs]
  rw [hla, lg_entry_eq]
  generalize (lg_sl ([.ref m0]) ++ List.replicate (3 - (lg_sl ([.ref m0])).length) Slot.unset).toArray = ls at hl ⊢
  have hl : lv_has ls 3 [(0, .ref m0)] := hl
  refine lv_aload_n hx hb dX11_readRouter_0 rfl (lv_at hl 0 rfl) ?_
  refine va_get (D := (dC, dI)) (ci := 11) (v := .ref (ra 2)) (C := RX11) (T := TX11) (N := 61) hx hb hts hin11 hown hK hP 0 rfl rfl 3 (Nat.le_of_ble_eq_true rfl) hw_0 (fun _ h9 => h9) rfl dX11_readRouter_1 ?_
  refine lv_iconst (v := 4) hx hb dX11_readRouter_4 ic_4 ?_
  refine va_iald hx hb hK hP 1 1 rfl rfl (vp_in_nI (n := 4) (by decide) (by decide)) dX11_readRouter_5 ?_
  refine W.eq (g2 := F0 m 6 ls [.int (q_told 4)]) rfl ?_
  refine lv_bipush (v := 12) hx hb dX11_readRouter_6 bp_12 ?_
  refine lv_icmp_ne (tgt := 16) hx hb dX11_readRouter_8 rfl (fun c1 => ?_) (fun c1 => ?_)
  · have b2 : iv 0 11 (q_told 4) := iv_neHi c1 (hq_told 4 : iv 0 12 (q_told 4)) ivk_12 (by decide) (by decide)
    refine lv_aload_n hx hb dX11_readRouter_16 rfl (lv_at hl 0 rfl) ?_
    refine va_get (D := (dC, dI)) (ci := 11) (v := .int (x0 8)) (C := RX11) (T := TX11) (N := 61) hx hb hts hin11 hown hK hP 0 rfl rfl 22 (Nat.le_of_ble_eq_true rfl) hw_1 (fun _ h9 => h9) rfl dX11_readRouter_17 ?_
    refine lv_if_eq (tgt := 24) hx hb dX11_readRouter_20 rfl (fun c3 => ?_) (fun c3 => ?_)
    · have b4 : iv 0 0 (x0 8) := iv_eqL c3 ivk_0
      refine lv_aload_n hx hb dX11_readRouter_24 rfl (lv_at hl 0 rfl) ?_
      obtain ⟨hPc, hDc, hFc, hJn⟩ := cl_a (wc := [(m0, .inr (11, oX11 ra x0)), (ra 13, .inl (kI, 700, .inl q_tape))]) (wr := [(ra 2, .inl (kI, 8, .inl q_told)), (ra 3, .inl (kI, 24, .inl q_kind)), (ra 4, .inl (kI, 24, .inl q_salt)), (ra 5, .inl (kI, 24, .inl q_pace)), (ra 6, .inl (kI, 24, .inl q_mute)), (ra 7, .inl (kI, 24, .inl q_late)), (ra 1, .inl (kS, 4, .inr (.inr (.inr (.inr q_kinds)))))]) hP hD hS hA [0, 7] [1, 2, 3, 4, 5, 6, 8] rfl rfl (by decide +kernel)
      refine va_callv (va_runV (As := []) (rest := []) ⟨hx, hb, hml, hown, hts⟩ (s11_stepOn l dC dI kB kI kJ kZ kC kS s.heap.size m0 ra x0 q_tape tT nN (nextT tT nN sS) (hX) (hq_tape) (hRr.2) (stp_of hRr) (hTQ)) (cwV 0 hts gX11_readRouter_X11_stepOn rfl rfl rfl (by decide +kernel) ⟨Nat.le_of_ble_eq_true rfl, Nat.le_of_ble_eq_true rfl⟩) ⟨fun a U g mk q => by obtain ⟨q0, q1, qP, qE, qD⟩ := q; exact ⟨q0, q1, qP, kE_call qE, qD⟩, va_recv hK hP (ci := 11) (q0 := 0) rfl rfl, fun U hU hW => ⟨rfl, by rw [hU], by rw [hU]; exact hPc, kE_warm hW hE, hDc.weaken (fun _ _ _ _ => trivial)⟩⟩ rfl rfl hl.1 rfl (lv_room (Nat.le_of_ble_eq_true rfl)) dX11_readRouter_25 ⟨Nat.le_of_ble_eq_true rfl, Nat.le_of_ble_eq_true rfl⟩) hS (fun q _ h => hFc q h) hFc (fun u t H locs ht hvm w6 hB hz1 hk1 hS => ?_)
      obtain ⟨y7, hq8, hq9, hq10, hq11, hq12, hq13, hq14, hq15, hq16, hP1, hD1⟩ := hB
      try dsimp only at w6
      obtain ⟨hPa, hDa⟩ := hJn (w1 := [(m0, .inr (11, oX11 ra y7)), (ra 13, .inl (kI, 700, .inl q_tape))]) hk1 ht hP1 hD1
      clear hP hD hPc hDc hFc hJn hP1 hD1 hk1
      have hP : va_P (dC, dI) vwCl [(ra 2, .inl (kI, 8, .inl q_told)), (ra 3, .inl (kI, 24, .inl q_kind)), (ra 4, .inl (kI, 24, .inl q_salt)), (ra 5, .inl (kI, 24, .inl q_pace)), (ra 6, .inl (kI, 24, .inl q_mute)), (ra 7, .inl (kI, 24, .inl q_late)), (ra 1, .inl (kS, 4, .inr (.inr (.inr (.inr q_kinds))))), (m0, .inr (11, oX11 ra y7)), (ra 13, .inl (kI, 700, .inl q_tape))] H := hPa
      have hD : va_D A [(ra 2, .inl (kI, 8, .inl q_told)), (ra 3, .inl (kI, 24, .inl q_kind)), (ra 4, .inl (kI, 24, .inl q_salt)), (ra 5, .inl (kI, 24, .inl q_pace)), (ra 6, .inl (kI, 24, .inl q_mute)), (ra 7, .inl (kI, 24, .inl q_late)), (ra 1, .inl (kS, 4, .inr (.inr (.inr (.inr q_kinds))))), (m0, .inr (11, oX11 ra y7)), (ra 13, .inl (kI, 700, .inl q_tape))] := hDa
      clear hPa hDa
      refine W.widen (k := 0) (n := 0) (Nat.le_of_ble_eq_true rfl) (Nat.le_of_ble_eq_true rfl) ?_
      refine lv_bipush (v := 12) hx hb dX11_readRouter_28 bp_12 ?_
      refine lv_aload_n hx hb dX11_readRouter_30 rfl (lv_at hl 0 rfl) ?_
      refine va_get (D := (dC, dI)) (ci := 11) (v := .ref (ra 2)) (C := RX11) (T := TX11) (N := 61) hx hb hts hin11 hown hK hP 7 rfl rfl 3 (Nat.le_of_ble_eq_true rfl) hw_0 (fun _ h9 => h9) rfl dX11_readRouter_31 ?_
      refine lv_iconst (v := 4) hx hb dX11_readRouter_34 ic_4 ?_
      refine va_iald hx hb hK hP 0 1 rfl rfl (vp_in_nI (n := 4) (by decide) (by decide)) dX11_readRouter_35 ?_
      refine W.eq (g2 := F0 m 36 ls [.int (q_told 4), .int 12]) rfl ?_
      refine lv_iadd hx hb dX11_readRouter_36 ?_
      have b17 : iv 12 23 (12 + (q_told 4)) := iv_add ivk_12 b2 (by decide) (by decide) (by decide) (by decide)
      refine lv_istore_n (lv' := [(1, .int (12 + (q_told 4))), (0, .ref m0)]) hx hb dX11_readRouter_37 rfl hl (Nat.le_of_ble_eq_true rfl) rfl (fun ls hl => ?_)
      refine lv_aload_n hx hb dX11_readRouter_38 rfl (lv_at hl 1 rfl) ?_
      refine lv_aload_n hx hb dX11_readRouter_39 rfl (lv_at hl 1 rfl) ?_
      refine va_get (D := (dC, dI)) (ci := 11) (v := .ref (ra 1)) (C := RX11) (T := TX11) (N := 61) hx hb hts hin11 hown hK hP 7 rfl rfl 1 (Nat.le_of_ble_eq_true rfl) hw_2 (fun _ h9 => h9) rfl dX11_readRouter_40 ?_
      obtain ⟨hPc, hDc, hFc, hJn⟩ := cl_a (wc := [(m0, .inr (11, oX11 ra y7)), (ra 13, .inl (kI, 700, .inl q_tape)), (ra 1, .inl (kS, 4, .inr (.inr (.inr (.inr q_kinds)))))]) (wr := [(ra 2, .inl (kI, 8, .inl q_told)), (ra 3, .inl (kI, 24, .inl q_kind)), (ra 4, .inl (kI, 24, .inl q_salt)), (ra 5, .inl (kI, 24, .inl q_pace)), (ra 6, .inl (kI, 24, .inl q_mute)), (ra 7, .inl (kI, 24, .inl q_late))]) hP hD hS hA [7, 8, 6] [0, 1, 2, 3, 4, 5] rfl rfl (by decide +kernel)
      refine va_calli (va_runV (As := [.ref (ra 1)]) (rest := []) ⟨hx, hb, hml, hown, hts⟩ (s11_which l dC dI kB kI kJ kZ kC kS H.size adK adV m0 ra y7 q_tape (ra 1) q_kinds 4 tT nN (nextT tT nN sS) (hq8) (hq_tape) (by decide) (hki) (hq12) (hTQ)) (cwV 1 hts gX11_readRouter_X11_which rfl rfl rfl (by decide +kernel) ⟨Nat.le_of_ble_eq_true rfl, Nat.le_of_ble_eq_true rfl⟩) ⟨fun a U g mk q => by obtain ⟨q0, q1, qP, qE, qD, qL⟩ := q; exact ⟨q0, q1, qP, kE_call qE, qD, kL_call qL⟩, va_recv hK hP (ci := 11) (q0 := 7) rfl rfl, fun U hU hW => ⟨rfl, by rw [hU], by rw [hU]; exact hPc, kE_warm hW hE, hDc.weaken (fun _ _ _ _ => trivial), kL_at hKL hS hFc hW hU⟩⟩ rfl rfl hl.1 rfl (lv_room (Nat.le_of_ble_eq_true rfl)) dX11_readRouter_43 ⟨Nat.le_of_ble_eq_true rfl, Nat.le_of_ble_eq_true rfl⟩) hS (fun q _ h => hFc q h) hFc (fun r18 u t H locs ht hvm w19 hB hz1 hk1 hS => ?_)
      obtain ⟨hP1, hD1⟩ := hB
      try dsimp only at w19
      obtain ⟨hPa, hDa⟩ := hJn (w1 := [(m0, .inr (11, oX11 ra y7)), (ra 13, .inl (kI, 700, .inl q_tape)), (ra 1, .inl (kS, 4, .inr (.inr (.inr (.inr q_kinds)))))]) hk1 ht hP1 hD1
      clear hP hD hPc hDc hFc hJn hP1 hD1 hk1
      have hP : va_P (dC, dI) vwCl [(ra 2, .inl (kI, 8, .inl q_told)), (ra 3, .inl (kI, 24, .inl q_kind)), (ra 4, .inl (kI, 24, .inl q_salt)), (ra 5, .inl (kI, 24, .inl q_pace)), (ra 6, .inl (kI, 24, .inl q_mute)), (ra 7, .inl (kI, 24, .inl q_late)), (m0, .inr (11, oX11 ra y7)), (ra 13, .inl (kI, 700, .inl q_tape)), (ra 1, .inl (kS, 4, .inr (.inr (.inr (.inr q_kinds)))))] H := hPa
      have hD : va_D A [(ra 2, .inl (kI, 8, .inl q_told)), (ra 3, .inl (kI, 24, .inl q_kind)), (ra 4, .inl (kI, 24, .inl q_salt)), (ra 5, .inl (kI, 24, .inl q_pace)), (ra 6, .inl (kI, 24, .inl q_mute)), (ra 7, .inl (kI, 24, .inl q_late)), (m0, .inr (11, oX11 ra y7)), (ra 13, .inl (kI, 700, .inl q_tape)), (ra 1, .inl (kS, 4, .inr (.inr (.inr (.inr q_kinds)))))] := hDa
      clear hPa hDa
      refine W.widen (k := 0) (n := 0) (Nat.le_of_ble_eq_true rfl) (Nat.le_of_ble_eq_true rfl) ?_
      have hwk := w19.2
      refine lv_istore_n (lv' := [(2, .int r18), (1, .int (12 + (q_told 4))), (0, .ref m0)]) hx hb dX11_readRouter_46 rfl hl (Nat.le_of_ble_eq_true rfl) rfl (fun ls hl => ?_)
      refine lv_iload_n hx hb dX11_readRouter_47 rfl (lv_at hl 0 rfl) ?_
      refine lv_iconst (v := (-1)) hx hb dX11_readRouter_48 ic_m1 ?_
      refine lv_icmp_ne (tgt := 57) hx hb dX11_readRouter_49 rfl (fun c20 => ?_) (fun c20 => ?_)
      · have b21 : iv 0 3 r18 := iv_neLo c20 w19.1 ivk_m1 (by decide) (by decide)
        have hrr22 : RRd tT nN y7 (kndT tT (rtr1 tT nN sS)) := (kq_y hwk c20).1 ▸ hq12
        refine lv_aload_n hx hb dX11_readRouter_57 rfl (lv_at hl 2 rfl) ?_
        refine va_get (D := (dC, dI)) (ci := 11) (v := .int (y7 8)) (C := RX11) (T := TX11) (N := 61) hx hb hts hin11 hown hK hP 6 rfl rfl 22 (Nat.le_of_ble_eq_true rfl) hw_1 (fun _ h9 => h9) rfl dX11_readRouter_58 ?_
        refine lv_if_ne (tgt := 68) hx hb dX11_readRouter_61 rfl (fun c23 => ?_) (fun c23 => ?_)
        · have b24 : iv 1 5 (y7 8) := iv_neLo c23 (hq8 8 : iv 0 5 (y7 8)) ivk_0 (by decide) (by decide)
          have hrr25 : RRd tT nN y7 (rtr2 tT nN sS) := rr_stepN hrr22 c23
          refine lv_aload_n hx hb dX11_readRouter_68 rfl (lv_at hl 2 rfl) ?_
          refine va_get (D := (dC, dI)) (ci := 11) (v := .ref (ra 3)) (C := RX11) (T := TX11) (N := 61) hx hb hts hin11 hown hK hP 6 rfl rfl 4 (Nat.le_of_ble_eq_true rfl) hw_3 (fun _ h9 => h9) rfl dX11_readRouter_69 ?_
          refine lv_iload_n hx hb dX11_readRouter_72 rfl (lv_at hl 1 rfl) ?_
          refine lv_iload_n hx hb dX11_readRouter_73 rfl (lv_at hl 0 rfl) ?_
          refine va_iast hx hb hK hP hD hS 1 1 rfl rfl (iv_in b17 (by decide) (by decide)) dX11_readRouter_74 (fun H locs hPa hDa hS => ?_)
          clear hP hD
          have hP : va_P (dC, dI) vwCl [(ra 2, .inl (kI, 8, .inl q_told)), (ra 3, .inl (kI, 24, .inl (upd q_kind (12 + (q_told 4)).toNatClampNeg r18))), (ra 4, .inl (kI, 24, .inl q_salt)), (ra 5, .inl (kI, 24, .inl q_pace)), (ra 6, .inl (kI, 24, .inl q_mute)), (ra 7, .inl (kI, 24, .inl q_late)), (m0, .inr (11, oX11 ra y7)), (ra 13, .inl (kI, 700, .inl q_tape)), (ra 1, .inl (kS, 4, .inr (.inr (.inr (.inr q_kinds)))))] H := hPa
          have hD : va_D A [(ra 2, .inl (kI, 8, .inl q_told)), (ra 3, .inl (kI, 24, .inl (upd q_kind (12 + (q_told 4)).toNatClampNeg r18))), (ra 4, .inl (kI, 24, .inl q_salt)), (ra 5, .inl (kI, 24, .inl q_pace)), (ra 6, .inl (kI, 24, .inl q_mute)), (ra 7, .inl (kI, 24, .inl q_late)), (m0, .inr (11, oX11 ra y7)), (ra 13, .inl (kI, 700, .inl q_tape)), (ra 1, .inl (kS, 4, .inr (.inr (.inr (.inr q_kinds)))))] := hDa
          clear hPa hDa
          refine lv_aload_n hx hb dX11_readRouter_75 rfl (lv_at hl 2 rfl) ?_
          refine va_get (D := (dC, dI)) (ci := 11) (v := .ref (ra 4)) (C := RX11) (T := TX11) (N := 61) hx hb hts hin11 hown hK hP 6 rfl rfl 5 (Nat.le_of_ble_eq_true rfl) hw_4 (fun _ h9 => h9) rfl dX11_readRouter_76 ?_
          refine lv_iload_n hx hb dX11_readRouter_79 rfl (lv_at hl 1 rfl) ?_
          refine lv_aload_n hx hb dX11_readRouter_80 rfl (lv_at hl 2 rfl) ?_
          refine lv_iconst (v := 0) hx hb dX11_readRouter_81 ic_0 ?_
          refine lv_bipush (v := 15) hx hb dX11_readRouter_82 bp_15 ?_
          obtain ⟨hPc, hDc, hFc, hJn⟩ := cl_a (wc := [(m0, .inr (11, oX11 ra y7)), (ra 13, .inl (kI, 700, .inl q_tape))]) (wr := [(ra 2, .inl (kI, 8, .inl q_told)), (ra 3, .inl (kI, 24, .inl (upd q_kind (12 + (q_told 4)).toNatClampNeg r18))), (ra 4, .inl (kI, 24, .inl q_salt)), (ra 5, .inl (kI, 24, .inl q_pace)), (ra 6, .inl (kI, 24, .inl q_mute)), (ra 7, .inl (kI, 24, .inl q_late)), (ra 1, .inl (kS, 4, .inr (.inr (.inr (.inr q_kinds)))))]) hP hD hS hA [6, 7] [0, 1, 2, 3, 4, 5, 8] rfl rfl (by decide +kernel)
          refine va_calli (va_runV (As := [.int 0, .int 15]) (rest := [.int (12 + (q_told 4)), .ref (ra 4)]) ⟨hx, hb, hml, hown, hts⟩ (s11_readNumber_0_15 l dC dI kB kI kJ kZ kC kS H.size m0 ra y7 q_tape tT nN (rtr2 tT nN sS) (hq8) (hq_tape) (hrr25) (hTQ)) (cwV 2 hts gX11_readRouter_X11_readNumber rfl rfl rfl (by decide +kernel) ⟨Nat.le_of_ble_eq_true rfl, Nat.le_of_ble_eq_true rfl⟩) ⟨fun a U g mk q => by obtain ⟨q0, q1, qP, qE, qD⟩ := q; exact ⟨q0, q1, qP, kE_call qE, qD⟩, va_recv hK hP (ci := 11) (q0 := 6) rfl rfl, fun U hU hW => ⟨rfl, by rw [hU], by rw [hU]; exact hPc, kE_warm hW hE, hDc.weaken (fun _ _ _ _ => trivial)⟩⟩ rfl rfl hl.1 rfl (lv_room (Nat.le_of_ble_eq_true rfl)) dX11_readRouter_84 ⟨Nat.le_of_ble_eq_true rfl, Nat.le_of_ble_eq_true rfl⟩) hS (fun q _ h => hFc q h) hFc (fun r26 u t H locs ht hvm w27 hB hz1 hk1 hS => ?_)
          obtain ⟨y28, hq29, hq30, hq31, hq32, hq33, hq34, hq35, hq36, hP1, hD1⟩ := hB
          try dsimp only at w27
          obtain ⟨hPa, hDa⟩ := hJn (w1 := [(m0, .inr (11, oX11 ra y28)), (ra 13, .inl (kI, 700, .inl q_tape))]) hk1 ht hP1 hD1
          clear hP hD hPc hDc hFc hJn hP1 hD1 hk1
          have hP : va_P (dC, dI) vwCl [(ra 2, .inl (kI, 8, .inl q_told)), (ra 3, .inl (kI, 24, .inl (upd q_kind (12 + (q_told 4)).toNatClampNeg r18))), (ra 4, .inl (kI, 24, .inl q_salt)), (ra 5, .inl (kI, 24, .inl q_pace)), (ra 6, .inl (kI, 24, .inl q_mute)), (ra 7, .inl (kI, 24, .inl q_late)), (ra 1, .inl (kS, 4, .inr (.inr (.inr (.inr q_kinds))))), (m0, .inr (11, oX11 ra y28)), (ra 13, .inl (kI, 700, .inl q_tape))] H := hPa
          have hD : va_D A [(ra 2, .inl (kI, 8, .inl q_told)), (ra 3, .inl (kI, 24, .inl (upd q_kind (12 + (q_told 4)).toNatClampNeg r18))), (ra 4, .inl (kI, 24, .inl q_salt)), (ra 5, .inl (kI, 24, .inl q_pace)), (ra 6, .inl (kI, 24, .inl q_mute)), (ra 7, .inl (kI, 24, .inl q_late)), (ra 1, .inl (kS, 4, .inr (.inr (.inr (.inr q_kinds))))), (m0, .inr (11, oX11 ra y28)), (ra 13, .inl (kI, 700, .inl q_tape))] := hDa
          clear hPa hDa
          refine W.widen (k := 0) (n := 0) (Nat.le_of_ble_eq_true rfl) (Nat.le_of_ble_eq_true rfl) ?_
          have hv2 := w27.2
          refine va_iast hx hb hK hP hD hS 2 1 rfl rfl (iv_in b17 (by decide) (by decide)) dX11_readRouter_87 (fun H locs hPa hDa hS => ?_)
          clear hP hD
          have hP : va_P (dC, dI) vwCl [(ra 2, .inl (kI, 8, .inl q_told)), (ra 3, .inl (kI, 24, .inl (upd q_kind (12 + (q_told 4)).toNatClampNeg r18))), (ra 4, .inl (kI, 24, .inl (upd q_salt (12 + (q_told 4)).toNatClampNeg r26))), (ra 5, .inl (kI, 24, .inl q_pace)), (ra 6, .inl (kI, 24, .inl q_mute)), (ra 7, .inl (kI, 24, .inl q_late)), (ra 1, .inl (kS, 4, .inr (.inr (.inr (.inr q_kinds))))), (m0, .inr (11, oX11 ra y28)), (ra 13, .inl (kI, 700, .inl q_tape))] H := hPa
          have hD : va_D A [(ra 2, .inl (kI, 8, .inl q_told)), (ra 3, .inl (kI, 24, .inl (upd q_kind (12 + (q_told 4)).toNatClampNeg r18))), (ra 4, .inl (kI, 24, .inl (upd q_salt (12 + (q_told 4)).toNatClampNeg r26))), (ra 5, .inl (kI, 24, .inl q_pace)), (ra 6, .inl (kI, 24, .inl q_mute)), (ra 7, .inl (kI, 24, .inl q_late)), (ra 1, .inl (kS, 4, .inr (.inr (.inr (.inr q_kinds))))), (m0, .inr (11, oX11 ra y28)), (ra 13, .inl (kI, 700, .inl q_tape))] := hDa
          clear hPa hDa
          have hrr37 : RRd tT nN y28 (rtr3 tT nN sS) := hq32
          refine lv_aload_n hx hb dX11_readRouter_88 rfl (lv_at hl 2 rfl) ?_
          refine va_get (D := (dC, dI)) (ci := 11) (v := .ref (ra 5)) (C := RX11) (T := TX11) (N := 61) hx hb hts hin11 hown hK hP 7 rfl rfl 6 (Nat.le_of_ble_eq_true rfl) hw_5 (fun _ h9 => h9) rfl dX11_readRouter_89 ?_
          refine lv_iload_n hx hb dX11_readRouter_92 rfl (lv_at hl 1 rfl) ?_
          refine lv_aload_n hx hb dX11_readRouter_93 rfl (lv_at hl 2 rfl) ?_
          refine lv_iconst (v := 1) hx hb dX11_readRouter_94 ic_1 ?_
          refine lv_bipush (v := 60) hx hb dX11_readRouter_95 bp_60 ?_
          obtain ⟨hPc, hDc, hFc, hJn⟩ := cl_a (wc := [(m0, .inr (11, oX11 ra y28)), (ra 13, .inl (kI, 700, .inl q_tape))]) (wr := [(ra 2, .inl (kI, 8, .inl q_told)), (ra 3, .inl (kI, 24, .inl (upd q_kind (12 + (q_told 4)).toNatClampNeg r18))), (ra 4, .inl (kI, 24, .inl (upd q_salt (12 + (q_told 4)).toNatClampNeg r26))), (ra 5, .inl (kI, 24, .inl q_pace)), (ra 6, .inl (kI, 24, .inl q_mute)), (ra 7, .inl (kI, 24, .inl q_late)), (ra 1, .inl (kS, 4, .inr (.inr (.inr (.inr q_kinds)))))]) hP hD hS hA [7, 8] [0, 1, 2, 3, 4, 5, 6] rfl rfl (by decide +kernel)
          refine va_calli (va_runV (As := [.int 1, .int 60]) (rest := [.int (12 + (q_told 4)), .ref (ra 5)]) ⟨hx, hb, hml, hown, hts⟩ (s11_readNumber_1_60 l dC dI kB kI kJ kZ kC kS H.size m0 ra y28 q_tape tT nN (rtr3 tT nN sS) (hq29) (hq_tape) (hrr37) (hTQ)) (cwV 2 hts gX11_readRouter_X11_readNumber rfl rfl rfl (by decide +kernel) ⟨Nat.le_of_ble_eq_true rfl, Nat.le_of_ble_eq_true rfl⟩) ⟨fun a U g mk q => by obtain ⟨q0, q1, qP, qE, qD⟩ := q; exact ⟨q0, q1, qP, kE_call qE, qD⟩, va_recv hK hP (ci := 11) (q0 := 7) rfl rfl, fun U hU hW => ⟨rfl, by rw [hU], by rw [hU]; exact hPc, kE_warm hW hE, hDc.weaken (fun _ _ _ _ => trivial)⟩⟩ rfl rfl hl.1 rfl (lv_room (Nat.le_of_ble_eq_true rfl)) dX11_readRouter_97 ⟨Nat.le_of_ble_eq_true rfl, Nat.le_of_ble_eq_true rfl⟩) hS (fun q _ h => hFc q h) hFc (fun r38 u t H locs ht hvm w39 hB hz1 hk1 hS => ?_)
          obtain ⟨y40, hq41, hq42, hq43, hq44, hq45, hq46, hq47, hq48, hP1, hD1⟩ := hB
          try dsimp only at w39
          obtain ⟨hPa, hDa⟩ := hJn (w1 := [(m0, .inr (11, oX11 ra y40)), (ra 13, .inl (kI, 700, .inl q_tape))]) hk1 ht hP1 hD1
          clear hP hD hPc hDc hFc hJn hP1 hD1 hk1
          have hP : va_P (dC, dI) vwCl [(ra 2, .inl (kI, 8, .inl q_told)), (ra 3, .inl (kI, 24, .inl (upd q_kind (12 + (q_told 4)).toNatClampNeg r18))), (ra 4, .inl (kI, 24, .inl (upd q_salt (12 + (q_told 4)).toNatClampNeg r26))), (ra 5, .inl (kI, 24, .inl q_pace)), (ra 6, .inl (kI, 24, .inl q_mute)), (ra 7, .inl (kI, 24, .inl q_late)), (ra 1, .inl (kS, 4, .inr (.inr (.inr (.inr q_kinds))))), (m0, .inr (11, oX11 ra y40)), (ra 13, .inl (kI, 700, .inl q_tape))] H := hPa
          have hD : va_D A [(ra 2, .inl (kI, 8, .inl q_told)), (ra 3, .inl (kI, 24, .inl (upd q_kind (12 + (q_told 4)).toNatClampNeg r18))), (ra 4, .inl (kI, 24, .inl (upd q_salt (12 + (q_told 4)).toNatClampNeg r26))), (ra 5, .inl (kI, 24, .inl q_pace)), (ra 6, .inl (kI, 24, .inl q_mute)), (ra 7, .inl (kI, 24, .inl q_late)), (ra 1, .inl (kS, 4, .inr (.inr (.inr (.inr q_kinds))))), (m0, .inr (11, oX11 ra y40)), (ra 13, .inl (kI, 700, .inl q_tape))] := hDa
          clear hPa hDa
          refine W.widen (k := 0) (n := 0) (Nat.le_of_ble_eq_true rfl) (Nat.le_of_ble_eq_true rfl) ?_
          have hv3 := w39.2
          refine va_iast hx hb hK hP hD hS 3 1 rfl rfl (iv_in b17 (by decide) (by decide)) dX11_readRouter_100 (fun H locs hPa hDa hS => ?_)
          clear hP hD
          have hP : va_P (dC, dI) vwCl [(ra 2, .inl (kI, 8, .inl q_told)), (ra 3, .inl (kI, 24, .inl (upd q_kind (12 + (q_told 4)).toNatClampNeg r18))), (ra 4, .inl (kI, 24, .inl (upd q_salt (12 + (q_told 4)).toNatClampNeg r26))), (ra 5, .inl (kI, 24, .inl (upd q_pace (12 + (q_told 4)).toNatClampNeg r38))), (ra 6, .inl (kI, 24, .inl q_mute)), (ra 7, .inl (kI, 24, .inl q_late)), (ra 1, .inl (kS, 4, .inr (.inr (.inr (.inr q_kinds))))), (m0, .inr (11, oX11 ra y40)), (ra 13, .inl (kI, 700, .inl q_tape))] H := hPa
          have hD : va_D A [(ra 2, .inl (kI, 8, .inl q_told)), (ra 3, .inl (kI, 24, .inl (upd q_kind (12 + (q_told 4)).toNatClampNeg r18))), (ra 4, .inl (kI, 24, .inl (upd q_salt (12 + (q_told 4)).toNatClampNeg r26))), (ra 5, .inl (kI, 24, .inl (upd q_pace (12 + (q_told 4)).toNatClampNeg r38))), (ra 6, .inl (kI, 24, .inl q_mute)), (ra 7, .inl (kI, 24, .inl q_late)), (ra 1, .inl (kS, 4, .inr (.inr (.inr (.inr q_kinds))))), (m0, .inr (11, oX11 ra y40)), (ra 13, .inl (kI, 700, .inl q_tape))] := hDa
          clear hPa hDa
          have hrr49 : RRd tT nN y40 (rtr4 tT nN sS) := hq44
          refine lv_aload_n hx hb dX11_readRouter_101 rfl (lv_at hl 2 rfl) ?_
          refine va_get (D := (dC, dI)) (ci := 11) (v := .ref (ra 6)) (C := RX11) (T := TX11) (N := 61) hx hb hts hin11 hown hK hP 7 rfl rfl 7 (Nat.le_of_ble_eq_true rfl) hw_6 (fun _ h9 => h9) rfl dX11_readRouter_102 ?_
          refine lv_iload_n hx hb dX11_readRouter_105 rfl (lv_at hl 1 rfl) ?_
          refine lv_aload_n hx hb dX11_readRouter_106 rfl (lv_at hl 2 rfl) ?_
          refine va_ldcS hx hb hown hKL.2.2.2.2.2.2.2.2.2.2.2.2.2.2.2.2.2.2.2.2.2.1 dX11_readRouter_107 ?_
          obtain ⟨hPc, hDc, hFc, hJn⟩ := cl_a (wc := [(m0, .inr (11, oX11 ra y40)), (ra 13, .inl (kI, 700, .inl q_tape))]) (wr := [(ra 2, .inl (kI, 8, .inl q_told)), (ra 3, .inl (kI, 24, .inl (upd q_kind (12 + (q_told 4)).toNatClampNeg r18))), (ra 4, .inl (kI, 24, .inl (upd q_salt (12 + (q_told 4)).toNatClampNeg r26))), (ra 5, .inl (kI, 24, .inl (upd q_pace (12 + (q_told 4)).toNatClampNeg r38))), (ra 6, .inl (kI, 24, .inl q_mute)), (ra 7, .inl (kI, 24, .inl q_late)), (ra 1, .inl (kS, 4, .inr (.inr (.inr (.inr q_kinds)))))]) hP hD hS hA [7, 8] [0, 1, 2, 3, 4, 5, 6] rfl rfl (by decide +kernel)
          refine va_calli (va_runV (As := [.ref (adK 8)]) (rest := [.int (12 + (q_told 4)), .ref (ra 6)]) ⟨hx, hb, hml, hown, hts⟩ (s11_is l dC dI kB kI kJ kZ kC kS H.size adK adV m0 ra y40 q_tape 8 tT nN (rtr4 tT nN sS) (hq41) (hq_tape) ((by decide)) (hrr49) (hTQ)) (cwV 1 hts gX11_readRouter_X11_is rfl rfl rfl (by decide +kernel) ⟨Nat.le_of_ble_eq_true rfl, Nat.le_of_ble_eq_true rfl⟩) ⟨fun a U g mk q => by obtain ⟨q0, q1, qP, qE, qD, qL⟩ := q; exact ⟨q0, q1, qP, kE_call qE, qD, kL_call qL⟩, va_recv hK hP (ci := 11) (q0 := 7) rfl rfl, fun U hU hW => ⟨rfl, by rw [hU], by rw [hU]; exact hPc, kE_warm hW hE, hDc.weaken (fun _ _ _ _ => trivial), kL_at hKL hS hFc hW hU⟩⟩ rfl rfl hl.1 rfl (lv_room (Nat.le_of_ble_eq_true rfl)) dX11_readRouter_109 ⟨Nat.le_of_ble_eq_true rfl, Nat.le_of_ble_eq_true rfl⟩) hS (fun q _ h => hFc q h) hFc (fun r50 u t H locs ht hvm w51 hB hz1 hk1 hS => ?_)
          obtain ⟨hP1, hD1⟩ := hB
          try dsimp only at w51
          obtain ⟨hPa, hDa⟩ := hJn (w1 := [(m0, .inr (11, oX11 ra y40)), (ra 13, .inl (kI, 700, .inl q_tape))]) hk1 ht hP1 hD1
          clear hP hD hPc hDc hFc hJn hP1 hD1 hk1
          have hP : va_P (dC, dI) vwCl [(ra 2, .inl (kI, 8, .inl q_told)), (ra 3, .inl (kI, 24, .inl (upd q_kind (12 + (q_told 4)).toNatClampNeg r18))), (ra 4, .inl (kI, 24, .inl (upd q_salt (12 + (q_told 4)).toNatClampNeg r26))), (ra 5, .inl (kI, 24, .inl (upd q_pace (12 + (q_told 4)).toNatClampNeg r38))), (ra 6, .inl (kI, 24, .inl q_mute)), (ra 7, .inl (kI, 24, .inl q_late)), (ra 1, .inl (kS, 4, .inr (.inr (.inr (.inr q_kinds))))), (m0, .inr (11, oX11 ra y40)), (ra 13, .inl (kI, 700, .inl q_tape))] H := hPa
          have hD : va_D A [(ra 2, .inl (kI, 8, .inl q_told)), (ra 3, .inl (kI, 24, .inl (upd q_kind (12 + (q_told 4)).toNatClampNeg r18))), (ra 4, .inl (kI, 24, .inl (upd q_salt (12 + (q_told 4)).toNatClampNeg r26))), (ra 5, .inl (kI, 24, .inl (upd q_pace (12 + (q_told 4)).toNatClampNeg r38))), (ra 6, .inl (kI, 24, .inl q_mute)), (ra 7, .inl (kI, 24, .inl q_late)), (ra 1, .inl (kS, 4, .inr (.inr (.inr (.inr q_kinds))))), (m0, .inr (11, oX11 ra y40)), (ra 13, .inl (kI, 700, .inl q_tape))] := hDa
          clear hPa hDa
          refine W.widen (k := 0) (n := 0) (Nat.le_of_ble_eq_true rfl) (Nat.le_of_ble_eq_true rfl) ?_
          obtain ⟨w51, b52⟩ := w51
          subst w51
          refine lv_if_eq (tgt := 119) hx hb dX11_readRouter_112 rfl (fun c53 => ?_) (fun c53 => ?_)
          · have b54 : iv 0 0 (wS tT 8 (rtr4 tT nN sS)) := iv_eqL c53 ivk_0
            refine lv_iconst (v := 0) hx hb dX11_readRouter_119 ic_0 ?_
            refine va_iast hx hb hK hP hD hS 4 1 rfl rfl (iv_in b17 (by decide) (by decide)) dX11_readRouter_120 (fun H locs hPa hDa hS => ?_)
            clear hP hD
            have hP : va_P (dC, dI) vwCl [(ra 2, .inl (kI, 8, .inl q_told)), (ra 3, .inl (kI, 24, .inl (upd q_kind (12 + (q_told 4)).toNatClampNeg r18))), (ra 4, .inl (kI, 24, .inl (upd q_salt (12 + (q_told 4)).toNatClampNeg r26))), (ra 5, .inl (kI, 24, .inl (upd q_pace (12 + (q_told 4)).toNatClampNeg r38))), (ra 6, .inl (kI, 24, .inl (upd q_mute (12 + (q_told 4)).toNatClampNeg 0))), (ra 7, .inl (kI, 24, .inl q_late)), (ra 1, .inl (kS, 4, .inr (.inr (.inr (.inr q_kinds))))), (m0, .inr (11, oX11 ra y40)), (ra 13, .inl (kI, 700, .inl q_tape))] H := hPa
            have hD : va_D A [(ra 2, .inl (kI, 8, .inl q_told)), (ra 3, .inl (kI, 24, .inl (upd q_kind (12 + (q_told 4)).toNatClampNeg r18))), (ra 4, .inl (kI, 24, .inl (upd q_salt (12 + (q_told 4)).toNatClampNeg r26))), (ra 5, .inl (kI, 24, .inl (upd q_pace (12 + (q_told 4)).toNatClampNeg r38))), (ra 6, .inl (kI, 24, .inl (upd q_mute (12 + (q_told 4)).toNatClampNeg 0))), (ra 7, .inl (kI, 24, .inl q_late)), (ra 1, .inl (kS, 4, .inr (.inr (.inr (.inr q_kinds))))), (m0, .inr (11, oX11 ra y40)), (ra 13, .inl (kI, 700, .inl q_tape))] := hDa
            clear hPa hDa
            refine lv_aload_n hx hb dX11_readRouter_121 rfl (lv_at hl 2 rfl) ?_
            refine va_get (D := (dC, dI)) (ci := 11) (v := .ref (ra 7)) (C := RX11) (T := TX11) (N := 61) hx hb hts hin11 hown hK hP 7 rfl rfl 8 (Nat.le_of_ble_eq_true rfl) hw_7 (fun _ h9 => h9) rfl dX11_readRouter_122 ?_
            refine lv_iload_n hx hb dX11_readRouter_125 rfl (lv_at hl 1 rfl) ?_
            refine lv_aload_n hx hb dX11_readRouter_126 rfl (lv_at hl 2 rfl) ?_
            refine va_ldcS hx hb hown hKL.2.2.2.2.2.2.2.2.2.2.2.2.2.2.2.2.2.2.2.2.2.2 dX11_readRouter_127 ?_
            obtain ⟨hPc, hDc, hFc, hJn⟩ := cl_a (wc := [(m0, .inr (11, oX11 ra y40)), (ra 13, .inl (kI, 700, .inl q_tape))]) (wr := [(ra 2, .inl (kI, 8, .inl q_told)), (ra 3, .inl (kI, 24, .inl (upd q_kind (12 + (q_told 4)).toNatClampNeg r18))), (ra 4, .inl (kI, 24, .inl (upd q_salt (12 + (q_told 4)).toNatClampNeg r26))), (ra 5, .inl (kI, 24, .inl (upd q_pace (12 + (q_told 4)).toNatClampNeg r38))), (ra 6, .inl (kI, 24, .inl (upd q_mute (12 + (q_told 4)).toNatClampNeg 0))), (ra 7, .inl (kI, 24, .inl q_late)), (ra 1, .inl (kS, 4, .inr (.inr (.inr (.inr q_kinds)))))]) hP hD hS hA [7, 8] [0, 1, 2, 3, 4, 5, 6] rfl rfl (by decide +kernel)
            refine va_calli (va_runV (As := [.ref (adK 9)]) (rest := [.int (12 + (q_told 4)), .ref (ra 7)]) ⟨hx, hb, hml, hown, hts⟩ (s11_is l dC dI kB kI kJ kZ kC kS H.size adK adV m0 ra y40 q_tape 9 tT nN (rtr4 tT nN sS) (hq41) (hq_tape) ((by decide)) (hrr49) (hTQ)) (cwV 1 hts gX11_readRouter_X11_is rfl rfl rfl (by decide +kernel) ⟨Nat.le_of_ble_eq_true rfl, Nat.le_of_ble_eq_true rfl⟩) ⟨fun a U g mk q => by obtain ⟨q0, q1, qP, qE, qD, qL⟩ := q; exact ⟨q0, q1, qP, kE_call qE, qD, kL_call qL⟩, va_recv hK hP (ci := 11) (q0 := 7) rfl rfl, fun U hU hW => ⟨rfl, by rw [hU], by rw [hU]; exact hPc, kE_warm hW hE, hDc.weaken (fun _ _ _ _ => trivial), kL_at hKL hS hFc hW hU⟩⟩ rfl rfl hl.1 rfl (lv_room (Nat.le_of_ble_eq_true rfl)) dX11_readRouter_129 ⟨Nat.le_of_ble_eq_true rfl, Nat.le_of_ble_eq_true rfl⟩) hS (fun q _ h => hFc q h) hFc (fun r55 u t H locs ht hvm w56 hB hz1 hk1 hS => ?_)
            obtain ⟨hP1, hD1⟩ := hB
            try dsimp only at w56
            obtain ⟨hPa, hDa⟩ := hJn (w1 := [(m0, .inr (11, oX11 ra y40)), (ra 13, .inl (kI, 700, .inl q_tape))]) hk1 ht hP1 hD1
            clear hP hD hPc hDc hFc hJn hP1 hD1 hk1
            have hP : va_P (dC, dI) vwCl [(ra 2, .inl (kI, 8, .inl q_told)), (ra 3, .inl (kI, 24, .inl (upd q_kind (12 + (q_told 4)).toNatClampNeg r18))), (ra 4, .inl (kI, 24, .inl (upd q_salt (12 + (q_told 4)).toNatClampNeg r26))), (ra 5, .inl (kI, 24, .inl (upd q_pace (12 + (q_told 4)).toNatClampNeg r38))), (ra 6, .inl (kI, 24, .inl (upd q_mute (12 + (q_told 4)).toNatClampNeg 0))), (ra 7, .inl (kI, 24, .inl q_late)), (ra 1, .inl (kS, 4, .inr (.inr (.inr (.inr q_kinds))))), (m0, .inr (11, oX11 ra y40)), (ra 13, .inl (kI, 700, .inl q_tape))] H := hPa
            have hD : va_D A [(ra 2, .inl (kI, 8, .inl q_told)), (ra 3, .inl (kI, 24, .inl (upd q_kind (12 + (q_told 4)).toNatClampNeg r18))), (ra 4, .inl (kI, 24, .inl (upd q_salt (12 + (q_told 4)).toNatClampNeg r26))), (ra 5, .inl (kI, 24, .inl (upd q_pace (12 + (q_told 4)).toNatClampNeg r38))), (ra 6, .inl (kI, 24, .inl (upd q_mute (12 + (q_told 4)).toNatClampNeg 0))), (ra 7, .inl (kI, 24, .inl q_late)), (ra 1, .inl (kS, 4, .inr (.inr (.inr (.inr q_kinds))))), (m0, .inr (11, oX11 ra y40)), (ra 13, .inl (kI, 700, .inl q_tape))] := hDa
            clear hPa hDa
            refine W.widen (k := 0) (n := 0) (Nat.le_of_ble_eq_true rfl) (Nat.le_of_ble_eq_true rfl) ?_
            obtain ⟨w56, b57⟩ := w56
            subst w56
            refine lv_if_eq (tgt := 139) hx hb dX11_readRouter_132 rfl (fun c58 => ?_) (fun c58 => ?_)
            · have b59 : iv 0 0 (wS tT 9 (rtr4 tT nN sS)) := iv_eqL c58 ivk_0
              refine lv_iconst (v := 0) hx hb dX11_readRouter_139 ic_0 ?_
              refine va_iast hx hb hK hP hD hS 5 1 rfl rfl (iv_in b17 (by decide) (by decide)) dX11_readRouter_140 (fun H locs hPa hDa hS => ?_)
              clear hP hD
              have hP : va_P (dC, dI) vwCl [(ra 2, .inl (kI, 8, .inl q_told)), (ra 3, .inl (kI, 24, .inl (upd q_kind (12 + (q_told 4)).toNatClampNeg r18))), (ra 4, .inl (kI, 24, .inl (upd q_salt (12 + (q_told 4)).toNatClampNeg r26))), (ra 5, .inl (kI, 24, .inl (upd q_pace (12 + (q_told 4)).toNatClampNeg r38))), (ra 6, .inl (kI, 24, .inl (upd q_mute (12 + (q_told 4)).toNatClampNeg 0))), (ra 7, .inl (kI, 24, .inl (upd q_late (12 + (q_told 4)).toNatClampNeg 0))), (ra 1, .inl (kS, 4, .inr (.inr (.inr (.inr q_kinds))))), (m0, .inr (11, oX11 ra y40)), (ra 13, .inl (kI, 700, .inl q_tape))] H := hPa
              have hD : va_D A [(ra 2, .inl (kI, 8, .inl q_told)), (ra 3, .inl (kI, 24, .inl (upd q_kind (12 + (q_told 4)).toNatClampNeg r18))), (ra 4, .inl (kI, 24, .inl (upd q_salt (12 + (q_told 4)).toNatClampNeg r26))), (ra 5, .inl (kI, 24, .inl (upd q_pace (12 + (q_told 4)).toNatClampNeg r38))), (ra 6, .inl (kI, 24, .inl (upd q_mute (12 + (q_told 4)).toNatClampNeg 0))), (ra 7, .inl (kI, 24, .inl (upd q_late (12 + (q_told 4)).toNatClampNeg 0))), (ra 1, .inl (kS, 4, .inr (.inr (.inr (.inr q_kinds))))), (m0, .inr (11, oX11 ra y40)), (ra 13, .inl (kI, 700, .inl q_tape))] := hDa
              clear hPa hDa
              refine lv_aload_n hx hb dX11_readRouter_141 rfl (lv_at hl 2 rfl) ?_
              refine va_get (D := (dC, dI)) (ci := 11) (v := .int (y40 8)) (C := RX11) (T := TX11) (N := 61) hx hb hts hin11 hown hK hP 7 rfl rfl 22 (Nat.le_of_ble_eq_true rfl) hw_1 (fun _ h9 => h9) rfl dX11_readRouter_142 ?_
              refine lv_if_ne (tgt := 168) hx hb dX11_readRouter_145 rfl (fun c60 => ?_) (fun c60 => ?_)
              · have b61 : iv 1 5 (y40 8) := iv_neLo c60 (hq41 8 : iv 0 5 (y40 8)) ivk_0 (by decide) (by decide)
                have hrr62 : RRd tT nN y40 (manT tT nN (rtr4 tT nN sS)) := (mq_b hrr49 c60) ▸ hrr49
                refine lv_aload_n hx hb dX11_readRouter_168 rfl (lv_at hl 2 rfl) ?_
                refine va_get (D := (dC, dI)) (ci := 11) (v := .ref (ra 2)) (C := RX11) (T := TX11) (N := 61) hx hb hts hin11 hown hK hP 7 rfl rfl 3 (Nat.le_of_ble_eq_true rfl) hw_0 (fun _ h9 => h9) rfl dX11_readRouter_169 ?_
                refine lv_iconst (v := 4) hx hb dX11_readRouter_172 ic_4 ?_
                refine lv_dup2_11 hx hb dX11_readRouter_173 rfl rfl ?_
                refine va_iald hx hb hK hP 0 1 rfl rfl (vp_in_nI (n := 4) (by decide) (by decide)) dX11_readRouter_174 ?_
                refine W.eq (g2 := F0 m 175 ls [.int (q_told 4), .int 4, .ref (ra 2)]) rfl ?_
                refine lv_iconst (v := 1) hx hb dX11_readRouter_175 ic_1 ?_
                refine lv_iadd hx hb dX11_readRouter_176 ?_
                have b63 : iv 1 12 ((q_told 4) + 1) := iv_add b2 ivk_1 (by decide) (by decide) (by decide) (by decide)
                refine va_iast hx hb hK hP hD hS 0 1 rfl rfl (vp_in_nI (n := 4) (by decide) (by decide)) dX11_readRouter_177 (fun H locs hPa hDa hS => ?_)
                clear hP hD
                have hP : va_P (dC, dI) vwCl [(ra 2, .inl (kI, 8, .inl (upd q_told 4 ((q_told 4) + 1)))), (ra 3, .inl (kI, 24, .inl (upd q_kind (12 + (q_told 4)).toNatClampNeg r18))), (ra 4, .inl (kI, 24, .inl (upd q_salt (12 + (q_told 4)).toNatClampNeg r26))), (ra 5, .inl (kI, 24, .inl (upd q_pace (12 + (q_told 4)).toNatClampNeg r38))), (ra 6, .inl (kI, 24, .inl (upd q_mute (12 + (q_told 4)).toNatClampNeg 0))), (ra 7, .inl (kI, 24, .inl (upd q_late (12 + (q_told 4)).toNatClampNeg 0))), (ra 1, .inl (kS, 4, .inr (.inr (.inr (.inr q_kinds))))), (m0, .inr (11, oX11 ra y40)), (ra 13, .inl (kI, 700, .inl q_tape))] H := hPa
                have hD : va_D A [(ra 2, .inl (kI, 8, .inl (upd q_told 4 ((q_told 4) + 1)))), (ra 3, .inl (kI, 24, .inl (upd q_kind (12 + (q_told 4)).toNatClampNeg r18))), (ra 4, .inl (kI, 24, .inl (upd q_salt (12 + (q_told 4)).toNatClampNeg r26))), (ra 5, .inl (kI, 24, .inl (upd q_pace (12 + (q_told 4)).toNatClampNeg r38))), (ra 6, .inl (kI, 24, .inl (upd q_mute (12 + (q_told 4)).toNatClampNeg 0))), (ra 7, .inl (kI, 24, .inl (upd q_late (12 + (q_told 4)).toNatClampNeg 0))), (ra 1, .inl (kS, 4, .inr (.inr (.inr (.inr q_kinds))))), (m0, .inr (11, oX11 ra y40)), (ra 13, .inl (kI, 700, .inl q_tape))] := hDa
                clear hPa hDa
                have hPD9 := cl_s (wc := [(m0, .inr (11, oX11 ra y40)), (ra 2, .inl (kI, 8, .inl (upd q_told 4 ((q_told 4) + 1)))), (ra 3, .inl (kI, 24, .inl (upd q_kind (12 + (q_told 4)).toNatClampNeg r18))), (ra 4, .inl (kI, 24, .inl (upd q_salt (12 + (q_told 4)).toNatClampNeg r26))), (ra 5, .inl (kI, 24, .inl (upd q_pace (12 + (q_told 4)).toNatClampNeg r38))), (ra 6, .inl (kI, 24, .inl (upd q_mute (12 + (q_told 4)).toNatClampNeg 0))), (ra 7, .inl (kI, 24, .inl (upd q_late (12 + (q_told 4)).toNatClampNeg 0))), (ra 13, .inl (kI, 700, .inl q_tape)), (ra 1, .inl (kS, 4, .inr (.inr (.inr (.inr q_kinds)))))]) hP hD [7, 0, 1, 2, 3, 4, 5, 8, 6] rfl (by decide +kernel)
                have hP9 := hPD9.1
                have hD9 := hPD9.2
                exact W.vret hx hb hr (fun t ht hW => ⟨⟨(), rfl, trivial, y40, upd q_told 4 ((q_told 4) + 1), upd q_kind (12 + (q_told 4)).toNatClampNeg r18, upd q_salt (12 + (q_told 4)).toNatClampNeg r26, upd q_pace (12 + (q_told 4)).toNatClampNeg r38, upd q_mute (12 + (q_told 4)).toNatClampNeg 0, upd q_late (12 + (q_told 4)).toNatClampNeg 0, hq41, (fI_u hq_told (k := 4) ((iv_w b63 (by decide) (by decide)))), (fI_u hq_salt (k := (12 + (q_told 4)).toNatClampNeg) (w27.1)), (show (x0 2).toInt ≤ (y40 2).toInt from by omega), (show y40 3 = x0 3 from hq43.trans (hq31.trans (hq10))), (show ∀ j : Nat, (j : Int) < (q_told 1).toInt → (q_from j).toInt < (q_to j).toInt from hLT), (show ∀ j : Nat, (j : Int) < (q_told 5).toInt → (q_from (20 + j)).toInt < (q_to (20 + j)).toInt from hLD), (show RRd tT nN y40 (rtrS tT nN sS (q_told 4)) from it_f (Q := RRd tT nN y40) c1 (hrr62)), fun w => absurd w c60, low_t (by decide), lw12_u (iv_w b2 (by decide) (by decide)), lw12_u (iv_w b2 (by decide) (by decide)), (show y40 1 = x0 1 from hq45.trans (hq33.trans (hq13))), (show y40 10 = x0 10 from hq46.trans (hq34.trans (hq14))), (show y40 11 = x0 11 from hq47.trans (hq35.trans (hq15))), (show y40 14 = x0 14 from hq48.trans (hq36.trans (hq16))), by rw [ht]; exact hP9, hD9⟩, hS.F ht⟩) hS.2.2 dX11_readRouter_178
              · have b64 : iv 0 0 (y40 8) := iv_eqL c60 ivk_0
                refine lv_aload_n hx hb dX11_readRouter_148 rfl (lv_at hl 2 rfl) ?_
                refine va_get (D := (dC, dI)) (ci := 11) (v := .ref (ra 6)) (C := RX11) (T := TX11) (N := 61) hx hb hts hin11 hown hK hP 7 rfl rfl 7 (Nat.le_of_ble_eq_true rfl) hw_6 (fun _ h9 => h9) rfl dX11_readRouter_149 ?_
                refine lv_iload_n hx hb dX11_readRouter_152 rfl (lv_at hl 1 rfl) ?_
                refine va_iald hx hb hK hP 4 1 rfl rfl (iv_in b17 (by decide) (by decide)) dX11_readRouter_153 ?_
                refine W.eq (g2 := F0 m 154 ls [.int 0]) (by rw [upd_eq]) ?_
                refine lv_aload_n hx hb dX11_readRouter_154 rfl (lv_at hl 2 rfl) ?_
                refine va_get (D := (dC, dI)) (ci := 11) (v := .ref (ra 7)) (C := RX11) (T := TX11) (N := 61) hx hb hts hin11 hown hK hP 7 rfl rfl 8 (Nat.le_of_ble_eq_true rfl) hw_7 (fun _ h9 => h9) rfl dX11_readRouter_155 ?_
                refine lv_iload_n hx hb dX11_readRouter_158 rfl (lv_at hl 1 rfl) ?_
                refine va_iald hx hb hK hP 5 1 rfl rfl (iv_in b17 (by decide) (by decide)) dX11_readRouter_159 ?_
                refine W.eq (g2 := F0 m 160 ls [.int 0, .int 0]) (by rw [upd_eq]) ?_
                refine lv_iadd hx hb dX11_readRouter_160 ?_
                refine lv_topi (fun z65 e66 => ?_)
                obtain rfl : z65 = (0 : Int32) := e66.trans (by decide)
                refine lv_if_le (tgt := 168) hx hb dX11_readRouter_161 rfl (fun _ => ?_) (fun c9 => absurd (by decide) c9)
                have hrr67 : RRd tT nN y40 (manT tT nN (rtr4 tT nN sS)) := (mq_0 hrr49 c60 c53 c58) ▸ hrr49
                refine lv_aload_n hx hb dX11_readRouter_168 rfl (lv_at hl 2 rfl) ?_
                refine va_get (D := (dC, dI)) (ci := 11) (v := .ref (ra 2)) (C := RX11) (T := TX11) (N := 61) hx hb hts hin11 hown hK hP 7 rfl rfl 3 (Nat.le_of_ble_eq_true rfl) hw_0 (fun _ h9 => h9) rfl dX11_readRouter_169 ?_
                refine lv_iconst (v := 4) hx hb dX11_readRouter_172 ic_4 ?_
                refine lv_dup2_11 hx hb dX11_readRouter_173 rfl rfl ?_
                refine va_iald hx hb hK hP 0 1 rfl rfl (vp_in_nI (n := 4) (by decide) (by decide)) dX11_readRouter_174 ?_
                refine W.eq (g2 := F0 m 175 ls [.int (q_told 4), .int 4, .ref (ra 2)]) rfl ?_
                refine lv_iconst (v := 1) hx hb dX11_readRouter_175 ic_1 ?_
                refine lv_iadd hx hb dX11_readRouter_176 ?_
                have b68 : iv 1 12 ((q_told 4) + 1) := iv_add b2 ivk_1 (by decide) (by decide) (by decide) (by decide)
                refine va_iast hx hb hK hP hD hS 0 1 rfl rfl (vp_in_nI (n := 4) (by decide) (by decide)) dX11_readRouter_177 (fun H locs hPa hDa hS => ?_)
                clear hP hD
                have hP : va_P (dC, dI) vwCl [(ra 2, .inl (kI, 8, .inl (upd q_told 4 ((q_told 4) + 1)))), (ra 3, .inl (kI, 24, .inl (upd q_kind (12 + (q_told 4)).toNatClampNeg r18))), (ra 4, .inl (kI, 24, .inl (upd q_salt (12 + (q_told 4)).toNatClampNeg r26))), (ra 5, .inl (kI, 24, .inl (upd q_pace (12 + (q_told 4)).toNatClampNeg r38))), (ra 6, .inl (kI, 24, .inl (upd q_mute (12 + (q_told 4)).toNatClampNeg 0))), (ra 7, .inl (kI, 24, .inl (upd q_late (12 + (q_told 4)).toNatClampNeg 0))), (ra 1, .inl (kS, 4, .inr (.inr (.inr (.inr q_kinds))))), (m0, .inr (11, oX11 ra y40)), (ra 13, .inl (kI, 700, .inl q_tape))] H := hPa
                have hD : va_D A [(ra 2, .inl (kI, 8, .inl (upd q_told 4 ((q_told 4) + 1)))), (ra 3, .inl (kI, 24, .inl (upd q_kind (12 + (q_told 4)).toNatClampNeg r18))), (ra 4, .inl (kI, 24, .inl (upd q_salt (12 + (q_told 4)).toNatClampNeg r26))), (ra 5, .inl (kI, 24, .inl (upd q_pace (12 + (q_told 4)).toNatClampNeg r38))), (ra 6, .inl (kI, 24, .inl (upd q_mute (12 + (q_told 4)).toNatClampNeg 0))), (ra 7, .inl (kI, 24, .inl (upd q_late (12 + (q_told 4)).toNatClampNeg 0))), (ra 1, .inl (kS, 4, .inr (.inr (.inr (.inr q_kinds))))), (m0, .inr (11, oX11 ra y40)), (ra 13, .inl (kI, 700, .inl q_tape))] := hDa
                clear hPa hDa
                have hPD9 := cl_s (wc := [(m0, .inr (11, oX11 ra y40)), (ra 2, .inl (kI, 8, .inl (upd q_told 4 ((q_told 4) + 1)))), (ra 3, .inl (kI, 24, .inl (upd q_kind (12 + (q_told 4)).toNatClampNeg r18))), (ra 4, .inl (kI, 24, .inl (upd q_salt (12 + (q_told 4)).toNatClampNeg r26))), (ra 5, .inl (kI, 24, .inl (upd q_pace (12 + (q_told 4)).toNatClampNeg r38))), (ra 6, .inl (kI, 24, .inl (upd q_mute (12 + (q_told 4)).toNatClampNeg 0))), (ra 7, .inl (kI, 24, .inl (upd q_late (12 + (q_told 4)).toNatClampNeg 0))), (ra 13, .inl (kI, 700, .inl q_tape)), (ra 1, .inl (kS, 4, .inr (.inr (.inr (.inr q_kinds)))))]) hP hD [7, 0, 1, 2, 3, 4, 5, 8, 6] rfl (by decide +kernel)
                have hP9 := hPD9.1
                have hD9 := hPD9.2
                exact W.vret hx hb hr (fun t ht hW => ⟨⟨(), rfl, trivial, y40, upd q_told 4 ((q_told 4) + 1), upd q_kind (12 + (q_told 4)).toNatClampNeg r18, upd q_salt (12 + (q_told 4)).toNatClampNeg r26, upd q_pace (12 + (q_told 4)).toNatClampNeg r38, upd q_mute (12 + (q_told 4)).toNatClampNeg 0, upd q_late (12 + (q_told 4)).toNatClampNeg 0, hq41, (fI_u hq_told (k := 4) ((iv_w b68 (by decide) (by decide)))), (fI_u hq_salt (k := (12 + (q_told 4)).toNatClampNeg) (w27.1)), (show (x0 2).toInt ≤ (y40 2).toInt from by omega), (show y40 3 = x0 3 from hq43.trans (hq31.trans (hq10))), (show ∀ j : Nat, (j : Int) < (q_told 1).toInt → (q_from j).toInt < (q_to j).toInt from hLT), (show ∀ j : Nat, (j : Int) < (q_told 5).toInt → (q_from (20 + j)).toInt < (q_to (20 + j)).toInt from hLD), (show RRd tT nN y40 (rtrS tT nN sS (q_told 4)) from it_f (Q := RRd tT nN y40) c1 (hrr67)), fun _ => ⟨rfl, congrArg (upd q_kind ((12 + (q_told 4)).toNatClampNeg)) ((kq_y hwk c20).2 (ok_next (ok_num (ok_next (ok_num (ok_next (rr_ok hrr49 c60))))))), congrArg (upd q_salt ((12 + (q_told 4)).toNatClampNeg)) (hv2 (ok_next (ok_num (ok_next (rr_ok hrr49 c60))))), congrArg (upd q_pace ((12 + (q_told 4)).toNatClampNeg)) (hv3 (ok_next (rr_ok hrr49 c60))), congrArg (upd q_mute ((12 + (q_told 4)).toNatClampNeg)) c53.symm, congrArg (upd q_late ((12 + (q_told 4)).toNatClampNeg)) c58.symm⟩, low_t (by decide), lw12_u (iv_w b2 (by decide) (by decide)), lw12_u (iv_w b2 (by decide) (by decide)), (show y40 1 = x0 1 from hq45.trans (hq33.trans (hq13))), (show y40 10 = x0 10 from hq46.trans (hq34.trans (hq14))), (show y40 11 = x0 11 from hq47.trans (hq35.trans (hq15))), (show y40 14 = x0 14 from hq48.trans (hq36.trans (hq16))), by rw [ht]; exact hP9, hD9⟩, hS.F ht⟩) hS.2.2 dX11_readRouter_178
            · have b69 : iv 1 1 (wS tT 9 (rtr4 tT nN sS)) := iv_neLo c58 b57 ivk_0 (by decide) (by decide)
              refine lv_iconst (v := 1) hx hb dX11_readRouter_135 ic_1 ?_
              refine lv_goto (tgt := 140) hx hb dX11_readRouter_136 rfl ?_
              refine va_iast hx hb hK hP hD hS 5 1 rfl rfl (iv_in b17 (by decide) (by decide)) dX11_readRouter_140 (fun H locs hPa hDa hS => ?_)
              clear hP hD
              have hP : va_P (dC, dI) vwCl [(ra 2, .inl (kI, 8, .inl q_told)), (ra 3, .inl (kI, 24, .inl (upd q_kind (12 + (q_told 4)).toNatClampNeg r18))), (ra 4, .inl (kI, 24, .inl (upd q_salt (12 + (q_told 4)).toNatClampNeg r26))), (ra 5, .inl (kI, 24, .inl (upd q_pace (12 + (q_told 4)).toNatClampNeg r38))), (ra 6, .inl (kI, 24, .inl (upd q_mute (12 + (q_told 4)).toNatClampNeg 0))), (ra 7, .inl (kI, 24, .inl (upd q_late (12 + (q_told 4)).toNatClampNeg 1))), (ra 1, .inl (kS, 4, .inr (.inr (.inr (.inr q_kinds))))), (m0, .inr (11, oX11 ra y40)), (ra 13, .inl (kI, 700, .inl q_tape))] H := hPa
              have hD : va_D A [(ra 2, .inl (kI, 8, .inl q_told)), (ra 3, .inl (kI, 24, .inl (upd q_kind (12 + (q_told 4)).toNatClampNeg r18))), (ra 4, .inl (kI, 24, .inl (upd q_salt (12 + (q_told 4)).toNatClampNeg r26))), (ra 5, .inl (kI, 24, .inl (upd q_pace (12 + (q_told 4)).toNatClampNeg r38))), (ra 6, .inl (kI, 24, .inl (upd q_mute (12 + (q_told 4)).toNatClampNeg 0))), (ra 7, .inl (kI, 24, .inl (upd q_late (12 + (q_told 4)).toNatClampNeg 1))), (ra 1, .inl (kS, 4, .inr (.inr (.inr (.inr q_kinds))))), (m0, .inr (11, oX11 ra y40)), (ra 13, .inl (kI, 700, .inl q_tape))] := hDa
              clear hPa hDa
              refine lv_aload_n hx hb dX11_readRouter_141 rfl (lv_at hl 2 rfl) ?_
              refine va_get (D := (dC, dI)) (ci := 11) (v := .int (y40 8)) (C := RX11) (T := TX11) (N := 61) hx hb hts hin11 hown hK hP 7 rfl rfl 22 (Nat.le_of_ble_eq_true rfl) hw_1 (fun _ h9 => h9) rfl dX11_readRouter_142 ?_
              refine lv_if_ne (tgt := 168) hx hb dX11_readRouter_145 rfl (fun c70 => ?_) (fun c70 => ?_)
              · have b71 : iv 1 5 (y40 8) := iv_neLo c70 (hq41 8 : iv 0 5 (y40 8)) ivk_0 (by decide) (by decide)
                have hrr72 : RRd tT nN y40 (manT tT nN (rtr4 tT nN sS)) := (mq_b hrr49 c70) ▸ hrr49
                refine lv_aload_n hx hb dX11_readRouter_168 rfl (lv_at hl 2 rfl) ?_
                refine va_get (D := (dC, dI)) (ci := 11) (v := .ref (ra 2)) (C := RX11) (T := TX11) (N := 61) hx hb hts hin11 hown hK hP 7 rfl rfl 3 (Nat.le_of_ble_eq_true rfl) hw_0 (fun _ h9 => h9) rfl dX11_readRouter_169 ?_
                refine lv_iconst (v := 4) hx hb dX11_readRouter_172 ic_4 ?_
                refine lv_dup2_11 hx hb dX11_readRouter_173 rfl rfl ?_
                refine va_iald hx hb hK hP 0 1 rfl rfl (vp_in_nI (n := 4) (by decide) (by decide)) dX11_readRouter_174 ?_
                refine W.eq (g2 := F0 m 175 ls [.int (q_told 4), .int 4, .ref (ra 2)]) rfl ?_
                refine lv_iconst (v := 1) hx hb dX11_readRouter_175 ic_1 ?_
                refine lv_iadd hx hb dX11_readRouter_176 ?_
                have b73 : iv 1 12 ((q_told 4) + 1) := iv_add b2 ivk_1 (by decide) (by decide) (by decide) (by decide)
                refine va_iast hx hb hK hP hD hS 0 1 rfl rfl (vp_in_nI (n := 4) (by decide) (by decide)) dX11_readRouter_177 (fun H locs hPa hDa hS => ?_)
                clear hP hD
                have hP : va_P (dC, dI) vwCl [(ra 2, .inl (kI, 8, .inl (upd q_told 4 ((q_told 4) + 1)))), (ra 3, .inl (kI, 24, .inl (upd q_kind (12 + (q_told 4)).toNatClampNeg r18))), (ra 4, .inl (kI, 24, .inl (upd q_salt (12 + (q_told 4)).toNatClampNeg r26))), (ra 5, .inl (kI, 24, .inl (upd q_pace (12 + (q_told 4)).toNatClampNeg r38))), (ra 6, .inl (kI, 24, .inl (upd q_mute (12 + (q_told 4)).toNatClampNeg 0))), (ra 7, .inl (kI, 24, .inl (upd q_late (12 + (q_told 4)).toNatClampNeg 1))), (ra 1, .inl (kS, 4, .inr (.inr (.inr (.inr q_kinds))))), (m0, .inr (11, oX11 ra y40)), (ra 13, .inl (kI, 700, .inl q_tape))] H := hPa
                have hD : va_D A [(ra 2, .inl (kI, 8, .inl (upd q_told 4 ((q_told 4) + 1)))), (ra 3, .inl (kI, 24, .inl (upd q_kind (12 + (q_told 4)).toNatClampNeg r18))), (ra 4, .inl (kI, 24, .inl (upd q_salt (12 + (q_told 4)).toNatClampNeg r26))), (ra 5, .inl (kI, 24, .inl (upd q_pace (12 + (q_told 4)).toNatClampNeg r38))), (ra 6, .inl (kI, 24, .inl (upd q_mute (12 + (q_told 4)).toNatClampNeg 0))), (ra 7, .inl (kI, 24, .inl (upd q_late (12 + (q_told 4)).toNatClampNeg 1))), (ra 1, .inl (kS, 4, .inr (.inr (.inr (.inr q_kinds))))), (m0, .inr (11, oX11 ra y40)), (ra 13, .inl (kI, 700, .inl q_tape))] := hDa
                clear hPa hDa
                have hPD9 := cl_s (wc := [(m0, .inr (11, oX11 ra y40)), (ra 2, .inl (kI, 8, .inl (upd q_told 4 ((q_told 4) + 1)))), (ra 3, .inl (kI, 24, .inl (upd q_kind (12 + (q_told 4)).toNatClampNeg r18))), (ra 4, .inl (kI, 24, .inl (upd q_salt (12 + (q_told 4)).toNatClampNeg r26))), (ra 5, .inl (kI, 24, .inl (upd q_pace (12 + (q_told 4)).toNatClampNeg r38))), (ra 6, .inl (kI, 24, .inl (upd q_mute (12 + (q_told 4)).toNatClampNeg 0))), (ra 7, .inl (kI, 24, .inl (upd q_late (12 + (q_told 4)).toNatClampNeg 1))), (ra 13, .inl (kI, 700, .inl q_tape)), (ra 1, .inl (kS, 4, .inr (.inr (.inr (.inr q_kinds)))))]) hP hD [7, 0, 1, 2, 3, 4, 5, 8, 6] rfl (by decide +kernel)
                have hP9 := hPD9.1
                have hD9 := hPD9.2
                exact W.vret hx hb hr (fun t ht hW => ⟨⟨(), rfl, trivial, y40, upd q_told 4 ((q_told 4) + 1), upd q_kind (12 + (q_told 4)).toNatClampNeg r18, upd q_salt (12 + (q_told 4)).toNatClampNeg r26, upd q_pace (12 + (q_told 4)).toNatClampNeg r38, upd q_mute (12 + (q_told 4)).toNatClampNeg 0, upd q_late (12 + (q_told 4)).toNatClampNeg 1, hq41, (fI_u hq_told (k := 4) ((iv_w b73 (by decide) (by decide)))), (fI_u hq_salt (k := (12 + (q_told 4)).toNatClampNeg) (w27.1)), (show (x0 2).toInt ≤ (y40 2).toInt from by omega), (show y40 3 = x0 3 from hq43.trans (hq31.trans (hq10))), (show ∀ j : Nat, (j : Int) < (q_told 1).toInt → (q_from j).toInt < (q_to j).toInt from hLT), (show ∀ j : Nat, (j : Int) < (q_told 5).toInt → (q_from (20 + j)).toInt < (q_to (20 + j)).toInt from hLD), (show RRd tT nN y40 (rtrS tT nN sS (q_told 4)) from it_f (Q := RRd tT nN y40) c1 (hrr72)), fun w => absurd w c70, low_t (by decide), lw12_u (iv_w b2 (by decide) (by decide)), lw12_u (iv_w b2 (by decide) (by decide)), (show y40 1 = x0 1 from hq45.trans (hq33.trans (hq13))), (show y40 10 = x0 10 from hq46.trans (hq34.trans (hq14))), (show y40 11 = x0 11 from hq47.trans (hq35.trans (hq15))), (show y40 14 = x0 14 from hq48.trans (hq36.trans (hq16))), by rw [ht]; exact hP9, hD9⟩, hS.F ht⟩) hS.2.2 dX11_readRouter_178
              · have b74 : iv 0 0 (y40 8) := iv_eqL c70 ivk_0
                refine lv_aload_n hx hb dX11_readRouter_148 rfl (lv_at hl 2 rfl) ?_
                refine va_get (D := (dC, dI)) (ci := 11) (v := .ref (ra 6)) (C := RX11) (T := TX11) (N := 61) hx hb hts hin11 hown hK hP 7 rfl rfl 7 (Nat.le_of_ble_eq_true rfl) hw_6 (fun _ h9 => h9) rfl dX11_readRouter_149 ?_
                refine lv_iload_n hx hb dX11_readRouter_152 rfl (lv_at hl 1 rfl) ?_
                refine va_iald hx hb hK hP 4 1 rfl rfl (iv_in b17 (by decide) (by decide)) dX11_readRouter_153 ?_
                refine W.eq (g2 := F0 m 154 ls [.int 0]) (by rw [upd_eq]) ?_
                refine lv_aload_n hx hb dX11_readRouter_154 rfl (lv_at hl 2 rfl) ?_
                refine va_get (D := (dC, dI)) (ci := 11) (v := .ref (ra 7)) (C := RX11) (T := TX11) (N := 61) hx hb hts hin11 hown hK hP 7 rfl rfl 8 (Nat.le_of_ble_eq_true rfl) hw_7 (fun _ h9 => h9) rfl dX11_readRouter_155 ?_
                refine lv_iload_n hx hb dX11_readRouter_158 rfl (lv_at hl 1 rfl) ?_
                refine va_iald hx hb hK hP 5 1 rfl rfl (iv_in b17 (by decide) (by decide)) dX11_readRouter_159 ?_
                refine W.eq (g2 := F0 m 160 ls [.int 1, .int 0]) (by rw [upd_eq]) ?_
                refine lv_iadd hx hb dX11_readRouter_160 ?_
                refine lv_topi (fun z75 e76 => ?_)
                obtain rfl : z75 = (1 : Int32) := e76.trans (by decide)
                refine lv_if_le (tgt := 168) hx hb dX11_readRouter_161 rfl (fun c9 => absurd c9 (by decide)) (fun _ => ?_)
                refine lv_aload_n hx hb dX11_readRouter_164 rfl (lv_at hl 2 rfl) ?_
                obtain ⟨hPc, hDc, hFc, hJn⟩ := cl_a (wc := [(m0, .inr (11, oX11 ra y40)), (ra 13, .inl (kI, 700, .inl q_tape))]) (wr := [(ra 2, .inl (kI, 8, .inl q_told)), (ra 3, .inl (kI, 24, .inl (upd q_kind (12 + (q_told 4)).toNatClampNeg r18))), (ra 4, .inl (kI, 24, .inl (upd q_salt (12 + (q_told 4)).toNatClampNeg r26))), (ra 5, .inl (kI, 24, .inl (upd q_pace (12 + (q_told 4)).toNatClampNeg r38))), (ra 6, .inl (kI, 24, .inl (upd q_mute (12 + (q_told 4)).toNatClampNeg 0))), (ra 7, .inl (kI, 24, .inl (upd q_late (12 + (q_told 4)).toNatClampNeg 1))), (ra 1, .inl (kS, 4, .inr (.inr (.inr (.inr q_kinds)))))]) hP hD hS hA [7, 8] [0, 1, 2, 3, 4, 5, 6] rfl rfl (by decide +kernel)
                refine va_callv (va_runV (As := []) (rest := []) ⟨hx, hb, hml, hown, hts⟩ (s11_stepOn l dC dI kB kI kJ kZ kC kS H.size m0 ra y40 q_tape tT nN (nextT tT nN (rtr4 tT nN sS)) (hq41) (hq_tape) (hrr49.2) (stp_of hrr49) (hTQ)) (cwV 0 hts gX11_readRouter_X11_stepOn rfl rfl rfl (by decide +kernel) ⟨Nat.le_of_ble_eq_true rfl, Nat.le_of_ble_eq_true rfl⟩) ⟨fun a U g mk q => by obtain ⟨q0, q1, qP, qE, qD⟩ := q; exact ⟨q0, q1, qP, kE_call qE, qD⟩, va_recv hK hP (ci := 11) (q0 := 7) rfl rfl, fun U hU hW => ⟨rfl, by rw [hU], by rw [hU]; exact hPc, kE_warm hW hE, hDc.weaken (fun _ _ _ _ => trivial)⟩⟩ rfl rfl hl.1 rfl (lv_room (Nat.le_of_ble_eq_true rfl)) dX11_readRouter_165 ⟨Nat.le_of_ble_eq_true rfl, Nat.le_of_ble_eq_true rfl⟩) hS (fun q _ h => hFc q h) hFc (fun u t H locs ht hvm w78 hB hz1 hk1 hS => ?_)
                obtain ⟨y79, hq80, hq81, hq82, hq83, hq84, hq85, hq86, hq87, hq88, hP1, hD1⟩ := hB
                try dsimp only at w78
                obtain ⟨hPa, hDa⟩ := hJn (w1 := [(m0, .inr (11, oX11 ra y79)), (ra 13, .inl (kI, 700, .inl q_tape))]) hk1 ht hP1 hD1
                clear hP hD hPc hDc hFc hJn hP1 hD1 hk1
                have hP : va_P (dC, dI) vwCl [(ra 2, .inl (kI, 8, .inl q_told)), (ra 3, .inl (kI, 24, .inl (upd q_kind (12 + (q_told 4)).toNatClampNeg r18))), (ra 4, .inl (kI, 24, .inl (upd q_salt (12 + (q_told 4)).toNatClampNeg r26))), (ra 5, .inl (kI, 24, .inl (upd q_pace (12 + (q_told 4)).toNatClampNeg r38))), (ra 6, .inl (kI, 24, .inl (upd q_mute (12 + (q_told 4)).toNatClampNeg 0))), (ra 7, .inl (kI, 24, .inl (upd q_late (12 + (q_told 4)).toNatClampNeg 1))), (ra 1, .inl (kS, 4, .inr (.inr (.inr (.inr q_kinds))))), (m0, .inr (11, oX11 ra y79)), (ra 13, .inl (kI, 700, .inl q_tape))] H := hPa
                have hD : va_D A [(ra 2, .inl (kI, 8, .inl q_told)), (ra 3, .inl (kI, 24, .inl (upd q_kind (12 + (q_told 4)).toNatClampNeg r18))), (ra 4, .inl (kI, 24, .inl (upd q_salt (12 + (q_told 4)).toNatClampNeg r26))), (ra 5, .inl (kI, 24, .inl (upd q_pace (12 + (q_told 4)).toNatClampNeg r38))), (ra 6, .inl (kI, 24, .inl (upd q_mute (12 + (q_told 4)).toNatClampNeg 0))), (ra 7, .inl (kI, 24, .inl (upd q_late (12 + (q_told 4)).toNatClampNeg 1))), (ra 1, .inl (kS, 4, .inr (.inr (.inr (.inr q_kinds))))), (m0, .inr (11, oX11 ra y79)), (ra 13, .inl (kI, 700, .inl q_tape))] := hDa
                clear hPa hDa
                refine W.widen (k := 0) (n := 0) (Nat.le_of_ble_eq_true rfl) (Nat.le_of_ble_eq_true rfl) ?_
                have hrr89 : RRd tT nN y79 (manT tT nN (rtr4 tT nN sS)) := (mq_s hrr49 c70 (Or.inr c58)) ▸ hq84
                refine lv_aload_n hx hb dX11_readRouter_168 rfl (lv_at hl 2 rfl) ?_
                refine va_get (D := (dC, dI)) (ci := 11) (v := .ref (ra 2)) (C := RX11) (T := TX11) (N := 61) hx hb hts hin11 hown hK hP 7 rfl rfl 3 (Nat.le_of_ble_eq_true rfl) hw_0 (fun _ h9 => h9) rfl dX11_readRouter_169 ?_
                refine lv_iconst (v := 4) hx hb dX11_readRouter_172 ic_4 ?_
                refine lv_dup2_11 hx hb dX11_readRouter_173 rfl rfl ?_
                refine va_iald hx hb hK hP 0 1 rfl rfl (vp_in_nI (n := 4) (by decide) (by decide)) dX11_readRouter_174 ?_
                refine W.eq (g2 := F0 m 175 ls [.int (q_told 4), .int 4, .ref (ra 2)]) rfl ?_
                refine lv_iconst (v := 1) hx hb dX11_readRouter_175 ic_1 ?_
                refine lv_iadd hx hb dX11_readRouter_176 ?_
                have b90 : iv 1 12 ((q_told 4) + 1) := iv_add b2 ivk_1 (by decide) (by decide) (by decide) (by decide)
                refine va_iast hx hb hK hP hD hS 0 1 rfl rfl (vp_in_nI (n := 4) (by decide) (by decide)) dX11_readRouter_177 (fun H locs hPa hDa hS => ?_)
                clear hP hD
                have hP : va_P (dC, dI) vwCl [(ra 2, .inl (kI, 8, .inl (upd q_told 4 ((q_told 4) + 1)))), (ra 3, .inl (kI, 24, .inl (upd q_kind (12 + (q_told 4)).toNatClampNeg r18))), (ra 4, .inl (kI, 24, .inl (upd q_salt (12 + (q_told 4)).toNatClampNeg r26))), (ra 5, .inl (kI, 24, .inl (upd q_pace (12 + (q_told 4)).toNatClampNeg r38))), (ra 6, .inl (kI, 24, .inl (upd q_mute (12 + (q_told 4)).toNatClampNeg 0))), (ra 7, .inl (kI, 24, .inl (upd q_late (12 + (q_told 4)).toNatClampNeg 1))), (ra 1, .inl (kS, 4, .inr (.inr (.inr (.inr q_kinds))))), (m0, .inr (11, oX11 ra y79)), (ra 13, .inl (kI, 700, .inl q_tape))] H := hPa
                have hD : va_D A [(ra 2, .inl (kI, 8, .inl (upd q_told 4 ((q_told 4) + 1)))), (ra 3, .inl (kI, 24, .inl (upd q_kind (12 + (q_told 4)).toNatClampNeg r18))), (ra 4, .inl (kI, 24, .inl (upd q_salt (12 + (q_told 4)).toNatClampNeg r26))), (ra 5, .inl (kI, 24, .inl (upd q_pace (12 + (q_told 4)).toNatClampNeg r38))), (ra 6, .inl (kI, 24, .inl (upd q_mute (12 + (q_told 4)).toNatClampNeg 0))), (ra 7, .inl (kI, 24, .inl (upd q_late (12 + (q_told 4)).toNatClampNeg 1))), (ra 1, .inl (kS, 4, .inr (.inr (.inr (.inr q_kinds))))), (m0, .inr (11, oX11 ra y79)), (ra 13, .inl (kI, 700, .inl q_tape))] := hDa
                clear hPa hDa
                have hPD9 := cl_s (wc := [(m0, .inr (11, oX11 ra y79)), (ra 2, .inl (kI, 8, .inl (upd q_told 4 ((q_told 4) + 1)))), (ra 3, .inl (kI, 24, .inl (upd q_kind (12 + (q_told 4)).toNatClampNeg r18))), (ra 4, .inl (kI, 24, .inl (upd q_salt (12 + (q_told 4)).toNatClampNeg r26))), (ra 5, .inl (kI, 24, .inl (upd q_pace (12 + (q_told 4)).toNatClampNeg r38))), (ra 6, .inl (kI, 24, .inl (upd q_mute (12 + (q_told 4)).toNatClampNeg 0))), (ra 7, .inl (kI, 24, .inl (upd q_late (12 + (q_told 4)).toNatClampNeg 1))), (ra 13, .inl (kI, 700, .inl q_tape)), (ra 1, .inl (kS, 4, .inr (.inr (.inr (.inr q_kinds)))))]) hP hD [7, 0, 1, 2, 3, 4, 5, 8, 6] rfl (by decide +kernel)
                have hP9 := hPD9.1
                have hD9 := hPD9.2
                exact W.vret hx hb hr (fun t ht hW => ⟨⟨(), rfl, trivial, y79, upd q_told 4 ((q_told 4) + 1), upd q_kind (12 + (q_told 4)).toNatClampNeg r18, upd q_salt (12 + (q_told 4)).toNatClampNeg r26, upd q_pace (12 + (q_told 4)).toNatClampNeg r38, upd q_mute (12 + (q_told 4)).toNatClampNeg 0, upd q_late (12 + (q_told 4)).toNatClampNeg 1, hq80, (fI_u hq_told (k := 4) ((iv_w b90 (by decide) (by decide)))), (fI_u hq_salt (k := (12 + (q_told 4)).toNatClampNeg) (w27.1)), (show (x0 2).toInt ≤ (y79 2).toInt from by omega), (show y79 3 = x0 3 from hq82.trans (hq43.trans (hq31.trans (hq10)))), (show ∀ j : Nat, (j : Int) < (q_told 1).toInt → (q_from j).toInt < (q_to j).toInt from hLT), (show ∀ j : Nat, (j : Int) < (q_told 5).toInt → (q_from (20 + j)).toInt < (q_to (20 + j)).toInt from hLD), (show RRd tT nN y79 (rtrS tT nN sS (q_told 4)) from it_f (Q := RRd tT nN y79) c1 (hrr89)), fun _ => ⟨rfl, congrArg (upd q_kind ((12 + (q_told 4)).toNatClampNeg)) ((kq_y hwk c20).2 (ok_next (ok_num (ok_next (ok_num (ok_next (rr_ok hrr49 c70))))))), congrArg (upd q_salt ((12 + (q_told 4)).toNatClampNeg)) (hv2 (ok_next (ok_num (ok_next (rr_ok hrr49 c70))))), congrArg (upd q_pace ((12 + (q_told 4)).toNatClampNeg)) (hv3 (ok_next (rr_ok hrr49 c70))), congrArg (upd q_mute ((12 + (q_told 4)).toNatClampNeg)) c53.symm, congrArg (upd q_late ((12 + (q_told 4)).toNatClampNeg)) (wS_1 c58)⟩, low_t (by decide), lw12_u (iv_w b2 (by decide) (by decide)), lw12_u (iv_w b2 (by decide) (by decide)), (show y79 1 = x0 1 from hq85.trans (hq45.trans (hq33.trans (hq13)))), (show y79 10 = x0 10 from hq86.trans (hq46.trans (hq34.trans (hq14)))), (show y79 11 = x0 11 from hq87.trans (hq47.trans (hq35.trans (hq15)))), (show y79 14 = x0 14 from hq88.trans (hq48.trans (hq36.trans (hq16)))), by rw [ht]; exact hP9, hD9⟩, hS.F ht⟩) hS.2.2 dX11_readRouter_178
          · have b91 : iv 1 1 (wS tT 8 (rtr4 tT nN sS)) := iv_neLo c53 b52 ivk_0 (by decide) (by decide)
            refine lv_iconst (v := 1) hx hb dX11_readRouter_115 ic_1 ?_
            refine lv_goto (tgt := 120) hx hb dX11_readRouter_116 rfl ?_
            refine va_iast hx hb hK hP hD hS 4 1 rfl rfl (iv_in b17 (by decide) (by decide)) dX11_readRouter_120 (fun H locs hPa hDa hS => ?_)
            clear hP hD
            have hP : va_P (dC, dI) vwCl [(ra 2, .inl (kI, 8, .inl q_told)), (ra 3, .inl (kI, 24, .inl (upd q_kind (12 + (q_told 4)).toNatClampNeg r18))), (ra 4, .inl (kI, 24, .inl (upd q_salt (12 + (q_told 4)).toNatClampNeg r26))), (ra 5, .inl (kI, 24, .inl (upd q_pace (12 + (q_told 4)).toNatClampNeg r38))), (ra 6, .inl (kI, 24, .inl (upd q_mute (12 + (q_told 4)).toNatClampNeg 1))), (ra 7, .inl (kI, 24, .inl q_late)), (ra 1, .inl (kS, 4, .inr (.inr (.inr (.inr q_kinds))))), (m0, .inr (11, oX11 ra y40)), (ra 13, .inl (kI, 700, .inl q_tape))] H := hPa
            have hD : va_D A [(ra 2, .inl (kI, 8, .inl q_told)), (ra 3, .inl (kI, 24, .inl (upd q_kind (12 + (q_told 4)).toNatClampNeg r18))), (ra 4, .inl (kI, 24, .inl (upd q_salt (12 + (q_told 4)).toNatClampNeg r26))), (ra 5, .inl (kI, 24, .inl (upd q_pace (12 + (q_told 4)).toNatClampNeg r38))), (ra 6, .inl (kI, 24, .inl (upd q_mute (12 + (q_told 4)).toNatClampNeg 1))), (ra 7, .inl (kI, 24, .inl q_late)), (ra 1, .inl (kS, 4, .inr (.inr (.inr (.inr q_kinds))))), (m0, .inr (11, oX11 ra y40)), (ra 13, .inl (kI, 700, .inl q_tape))] := hDa
            clear hPa hDa
            refine lv_aload_n hx hb dX11_readRouter_121 rfl (lv_at hl 2 rfl) ?_
            refine va_get (D := (dC, dI)) (ci := 11) (v := .ref (ra 7)) (C := RX11) (T := TX11) (N := 61) hx hb hts hin11 hown hK hP 7 rfl rfl 8 (Nat.le_of_ble_eq_true rfl) hw_7 (fun _ h9 => h9) rfl dX11_readRouter_122 ?_
            refine lv_iload_n hx hb dX11_readRouter_125 rfl (lv_at hl 1 rfl) ?_
            refine lv_aload_n hx hb dX11_readRouter_126 rfl (lv_at hl 2 rfl) ?_
            refine va_ldcS hx hb hown hKL.2.2.2.2.2.2.2.2.2.2.2.2.2.2.2.2.2.2.2.2.2.2 dX11_readRouter_127 ?_
            obtain ⟨hPc, hDc, hFc, hJn⟩ := cl_a (wc := [(m0, .inr (11, oX11 ra y40)), (ra 13, .inl (kI, 700, .inl q_tape))]) (wr := [(ra 2, .inl (kI, 8, .inl q_told)), (ra 3, .inl (kI, 24, .inl (upd q_kind (12 + (q_told 4)).toNatClampNeg r18))), (ra 4, .inl (kI, 24, .inl (upd q_salt (12 + (q_told 4)).toNatClampNeg r26))), (ra 5, .inl (kI, 24, .inl (upd q_pace (12 + (q_told 4)).toNatClampNeg r38))), (ra 6, .inl (kI, 24, .inl (upd q_mute (12 + (q_told 4)).toNatClampNeg 1))), (ra 7, .inl (kI, 24, .inl q_late)), (ra 1, .inl (kS, 4, .inr (.inr (.inr (.inr q_kinds)))))]) hP hD hS hA [7, 8] [0, 1, 2, 3, 4, 5, 6] rfl rfl (by decide +kernel)
            refine va_calli (va_runV (As := [.ref (adK 9)]) (rest := [.int (12 + (q_told 4)), .ref (ra 7)]) ⟨hx, hb, hml, hown, hts⟩ (s11_is l dC dI kB kI kJ kZ kC kS H.size adK adV m0 ra y40 q_tape 9 tT nN (rtr4 tT nN sS) (hq41) (hq_tape) ((by decide)) (hrr49) (hTQ)) (cwV 1 hts gX11_readRouter_X11_is rfl rfl rfl (by decide +kernel) ⟨Nat.le_of_ble_eq_true rfl, Nat.le_of_ble_eq_true rfl⟩) ⟨fun a U g mk q => by obtain ⟨q0, q1, qP, qE, qD, qL⟩ := q; exact ⟨q0, q1, qP, kE_call qE, qD, kL_call qL⟩, va_recv hK hP (ci := 11) (q0 := 7) rfl rfl, fun U hU hW => ⟨rfl, by rw [hU], by rw [hU]; exact hPc, kE_warm hW hE, hDc.weaken (fun _ _ _ _ => trivial), kL_at hKL hS hFc hW hU⟩⟩ rfl rfl hl.1 rfl (lv_room (Nat.le_of_ble_eq_true rfl)) dX11_readRouter_129 ⟨Nat.le_of_ble_eq_true rfl, Nat.le_of_ble_eq_true rfl⟩) hS (fun q _ h => hFc q h) hFc (fun r92 u t H locs ht hvm w93 hB hz1 hk1 hS => ?_)
            obtain ⟨hP1, hD1⟩ := hB
            try dsimp only at w93
            obtain ⟨hPa, hDa⟩ := hJn (w1 := [(m0, .inr (11, oX11 ra y40)), (ra 13, .inl (kI, 700, .inl q_tape))]) hk1 ht hP1 hD1
            clear hP hD hPc hDc hFc hJn hP1 hD1 hk1
            have hP : va_P (dC, dI) vwCl [(ra 2, .inl (kI, 8, .inl q_told)), (ra 3, .inl (kI, 24, .inl (upd q_kind (12 + (q_told 4)).toNatClampNeg r18))), (ra 4, .inl (kI, 24, .inl (upd q_salt (12 + (q_told 4)).toNatClampNeg r26))), (ra 5, .inl (kI, 24, .inl (upd q_pace (12 + (q_told 4)).toNatClampNeg r38))), (ra 6, .inl (kI, 24, .inl (upd q_mute (12 + (q_told 4)).toNatClampNeg 1))), (ra 7, .inl (kI, 24, .inl q_late)), (ra 1, .inl (kS, 4, .inr (.inr (.inr (.inr q_kinds))))), (m0, .inr (11, oX11 ra y40)), (ra 13, .inl (kI, 700, .inl q_tape))] H := hPa
            have hD : va_D A [(ra 2, .inl (kI, 8, .inl q_told)), (ra 3, .inl (kI, 24, .inl (upd q_kind (12 + (q_told 4)).toNatClampNeg r18))), (ra 4, .inl (kI, 24, .inl (upd q_salt (12 + (q_told 4)).toNatClampNeg r26))), (ra 5, .inl (kI, 24, .inl (upd q_pace (12 + (q_told 4)).toNatClampNeg r38))), (ra 6, .inl (kI, 24, .inl (upd q_mute (12 + (q_told 4)).toNatClampNeg 1))), (ra 7, .inl (kI, 24, .inl q_late)), (ra 1, .inl (kS, 4, .inr (.inr (.inr (.inr q_kinds))))), (m0, .inr (11, oX11 ra y40)), (ra 13, .inl (kI, 700, .inl q_tape))] := hDa
            clear hPa hDa
            refine W.widen (k := 0) (n := 0) (Nat.le_of_ble_eq_true rfl) (Nat.le_of_ble_eq_true rfl) ?_
            obtain ⟨w93, b94⟩ := w93
            subst w93
            refine lv_if_eq (tgt := 139) hx hb dX11_readRouter_132 rfl (fun c95 => ?_) (fun c95 => ?_)
            · have b96 : iv 0 0 (wS tT 9 (rtr4 tT nN sS)) := iv_eqL c95 ivk_0
              refine lv_iconst (v := 0) hx hb dX11_readRouter_139 ic_0 ?_
              refine va_iast hx hb hK hP hD hS 5 1 rfl rfl (iv_in b17 (by decide) (by decide)) dX11_readRouter_140 (fun H locs hPa hDa hS => ?_)
              clear hP hD
              have hP : va_P (dC, dI) vwCl [(ra 2, .inl (kI, 8, .inl q_told)), (ra 3, .inl (kI, 24, .inl (upd q_kind (12 + (q_told 4)).toNatClampNeg r18))), (ra 4, .inl (kI, 24, .inl (upd q_salt (12 + (q_told 4)).toNatClampNeg r26))), (ra 5, .inl (kI, 24, .inl (upd q_pace (12 + (q_told 4)).toNatClampNeg r38))), (ra 6, .inl (kI, 24, .inl (upd q_mute (12 + (q_told 4)).toNatClampNeg 1))), (ra 7, .inl (kI, 24, .inl (upd q_late (12 + (q_told 4)).toNatClampNeg 0))), (ra 1, .inl (kS, 4, .inr (.inr (.inr (.inr q_kinds))))), (m0, .inr (11, oX11 ra y40)), (ra 13, .inl (kI, 700, .inl q_tape))] H := hPa
              have hD : va_D A [(ra 2, .inl (kI, 8, .inl q_told)), (ra 3, .inl (kI, 24, .inl (upd q_kind (12 + (q_told 4)).toNatClampNeg r18))), (ra 4, .inl (kI, 24, .inl (upd q_salt (12 + (q_told 4)).toNatClampNeg r26))), (ra 5, .inl (kI, 24, .inl (upd q_pace (12 + (q_told 4)).toNatClampNeg r38))), (ra 6, .inl (kI, 24, .inl (upd q_mute (12 + (q_told 4)).toNatClampNeg 1))), (ra 7, .inl (kI, 24, .inl (upd q_late (12 + (q_told 4)).toNatClampNeg 0))), (ra 1, .inl (kS, 4, .inr (.inr (.inr (.inr q_kinds))))), (m0, .inr (11, oX11 ra y40)), (ra 13, .inl (kI, 700, .inl q_tape))] := hDa
              clear hPa hDa
              refine lv_aload_n hx hb dX11_readRouter_141 rfl (lv_at hl 2 rfl) ?_
              refine va_get (D := (dC, dI)) (ci := 11) (v := .int (y40 8)) (C := RX11) (T := TX11) (N := 61) hx hb hts hin11 hown hK hP 7 rfl rfl 22 (Nat.le_of_ble_eq_true rfl) hw_1 (fun _ h9 => h9) rfl dX11_readRouter_142 ?_
              refine lv_if_ne (tgt := 168) hx hb dX11_readRouter_145 rfl (fun c97 => ?_) (fun c97 => ?_)
              · have b98 : iv 1 5 (y40 8) := iv_neLo c97 (hq41 8 : iv 0 5 (y40 8)) ivk_0 (by decide) (by decide)
                have hrr99 : RRd tT nN y40 (manT tT nN (rtr4 tT nN sS)) := (mq_b hrr49 c97) ▸ hrr49
                refine lv_aload_n hx hb dX11_readRouter_168 rfl (lv_at hl 2 rfl) ?_
                refine va_get (D := (dC, dI)) (ci := 11) (v := .ref (ra 2)) (C := RX11) (T := TX11) (N := 61) hx hb hts hin11 hown hK hP 7 rfl rfl 3 (Nat.le_of_ble_eq_true rfl) hw_0 (fun _ h9 => h9) rfl dX11_readRouter_169 ?_
                refine lv_iconst (v := 4) hx hb dX11_readRouter_172 ic_4 ?_
                refine lv_dup2_11 hx hb dX11_readRouter_173 rfl rfl ?_
                refine va_iald hx hb hK hP 0 1 rfl rfl (vp_in_nI (n := 4) (by decide) (by decide)) dX11_readRouter_174 ?_
                refine W.eq (g2 := F0 m 175 ls [.int (q_told 4), .int 4, .ref (ra 2)]) rfl ?_
                refine lv_iconst (v := 1) hx hb dX11_readRouter_175 ic_1 ?_
                refine lv_iadd hx hb dX11_readRouter_176 ?_
                have b100 : iv 1 12 ((q_told 4) + 1) := iv_add b2 ivk_1 (by decide) (by decide) (by decide) (by decide)
                refine va_iast hx hb hK hP hD hS 0 1 rfl rfl (vp_in_nI (n := 4) (by decide) (by decide)) dX11_readRouter_177 (fun H locs hPa hDa hS => ?_)
                clear hP hD
                have hP : va_P (dC, dI) vwCl [(ra 2, .inl (kI, 8, .inl (upd q_told 4 ((q_told 4) + 1)))), (ra 3, .inl (kI, 24, .inl (upd q_kind (12 + (q_told 4)).toNatClampNeg r18))), (ra 4, .inl (kI, 24, .inl (upd q_salt (12 + (q_told 4)).toNatClampNeg r26))), (ra 5, .inl (kI, 24, .inl (upd q_pace (12 + (q_told 4)).toNatClampNeg r38))), (ra 6, .inl (kI, 24, .inl (upd q_mute (12 + (q_told 4)).toNatClampNeg 1))), (ra 7, .inl (kI, 24, .inl (upd q_late (12 + (q_told 4)).toNatClampNeg 0))), (ra 1, .inl (kS, 4, .inr (.inr (.inr (.inr q_kinds))))), (m0, .inr (11, oX11 ra y40)), (ra 13, .inl (kI, 700, .inl q_tape))] H := hPa
                have hD : va_D A [(ra 2, .inl (kI, 8, .inl (upd q_told 4 ((q_told 4) + 1)))), (ra 3, .inl (kI, 24, .inl (upd q_kind (12 + (q_told 4)).toNatClampNeg r18))), (ra 4, .inl (kI, 24, .inl (upd q_salt (12 + (q_told 4)).toNatClampNeg r26))), (ra 5, .inl (kI, 24, .inl (upd q_pace (12 + (q_told 4)).toNatClampNeg r38))), (ra 6, .inl (kI, 24, .inl (upd q_mute (12 + (q_told 4)).toNatClampNeg 1))), (ra 7, .inl (kI, 24, .inl (upd q_late (12 + (q_told 4)).toNatClampNeg 0))), (ra 1, .inl (kS, 4, .inr (.inr (.inr (.inr q_kinds))))), (m0, .inr (11, oX11 ra y40)), (ra 13, .inl (kI, 700, .inl q_tape))] := hDa
                clear hPa hDa
                have hPD9 := cl_s (wc := [(m0, .inr (11, oX11 ra y40)), (ra 2, .inl (kI, 8, .inl (upd q_told 4 ((q_told 4) + 1)))), (ra 3, .inl (kI, 24, .inl (upd q_kind (12 + (q_told 4)).toNatClampNeg r18))), (ra 4, .inl (kI, 24, .inl (upd q_salt (12 + (q_told 4)).toNatClampNeg r26))), (ra 5, .inl (kI, 24, .inl (upd q_pace (12 + (q_told 4)).toNatClampNeg r38))), (ra 6, .inl (kI, 24, .inl (upd q_mute (12 + (q_told 4)).toNatClampNeg 1))), (ra 7, .inl (kI, 24, .inl (upd q_late (12 + (q_told 4)).toNatClampNeg 0))), (ra 13, .inl (kI, 700, .inl q_tape)), (ra 1, .inl (kS, 4, .inr (.inr (.inr (.inr q_kinds)))))]) hP hD [7, 0, 1, 2, 3, 4, 5, 8, 6] rfl (by decide +kernel)
                have hP9 := hPD9.1
                have hD9 := hPD9.2
                exact W.vret hx hb hr (fun t ht hW => ⟨⟨(), rfl, trivial, y40, upd q_told 4 ((q_told 4) + 1), upd q_kind (12 + (q_told 4)).toNatClampNeg r18, upd q_salt (12 + (q_told 4)).toNatClampNeg r26, upd q_pace (12 + (q_told 4)).toNatClampNeg r38, upd q_mute (12 + (q_told 4)).toNatClampNeg 1, upd q_late (12 + (q_told 4)).toNatClampNeg 0, hq41, (fI_u hq_told (k := 4) ((iv_w b100 (by decide) (by decide)))), (fI_u hq_salt (k := (12 + (q_told 4)).toNatClampNeg) (w27.1)), (show (x0 2).toInt ≤ (y40 2).toInt from by omega), (show y40 3 = x0 3 from hq43.trans (hq31.trans (hq10))), (show ∀ j : Nat, (j : Int) < (q_told 1).toInt → (q_from j).toInt < (q_to j).toInt from hLT), (show ∀ j : Nat, (j : Int) < (q_told 5).toInt → (q_from (20 + j)).toInt < (q_to (20 + j)).toInt from hLD), (show RRd tT nN y40 (rtrS tT nN sS (q_told 4)) from it_f (Q := RRd tT nN y40) c1 (hrr99)), fun w => absurd w c97, low_t (by decide), lw12_u (iv_w b2 (by decide) (by decide)), lw12_u (iv_w b2 (by decide) (by decide)), (show y40 1 = x0 1 from hq45.trans (hq33.trans (hq13))), (show y40 10 = x0 10 from hq46.trans (hq34.trans (hq14))), (show y40 11 = x0 11 from hq47.trans (hq35.trans (hq15))), (show y40 14 = x0 14 from hq48.trans (hq36.trans (hq16))), by rw [ht]; exact hP9, hD9⟩, hS.F ht⟩) hS.2.2 dX11_readRouter_178
              · have b101 : iv 0 0 (y40 8) := iv_eqL c97 ivk_0
                refine lv_aload_n hx hb dX11_readRouter_148 rfl (lv_at hl 2 rfl) ?_
                refine va_get (D := (dC, dI)) (ci := 11) (v := .ref (ra 6)) (C := RX11) (T := TX11) (N := 61) hx hb hts hin11 hown hK hP 7 rfl rfl 7 (Nat.le_of_ble_eq_true rfl) hw_6 (fun _ h9 => h9) rfl dX11_readRouter_149 ?_
                refine lv_iload_n hx hb dX11_readRouter_152 rfl (lv_at hl 1 rfl) ?_
                refine va_iald hx hb hK hP 4 1 rfl rfl (iv_in b17 (by decide) (by decide)) dX11_readRouter_153 ?_
                refine W.eq (g2 := F0 m 154 ls [.int 1]) (by rw [upd_eq]) ?_
                refine lv_aload_n hx hb dX11_readRouter_154 rfl (lv_at hl 2 rfl) ?_
                refine va_get (D := (dC, dI)) (ci := 11) (v := .ref (ra 7)) (C := RX11) (T := TX11) (N := 61) hx hb hts hin11 hown hK hP 7 rfl rfl 8 (Nat.le_of_ble_eq_true rfl) hw_7 (fun _ h9 => h9) rfl dX11_readRouter_155 ?_
                refine lv_iload_n hx hb dX11_readRouter_158 rfl (lv_at hl 1 rfl) ?_
                refine va_iald hx hb hK hP 5 1 rfl rfl (iv_in b17 (by decide) (by decide)) dX11_readRouter_159 ?_
                refine W.eq (g2 := F0 m 160 ls [.int 0, .int 1]) (by rw [upd_eq]) ?_
                refine lv_iadd hx hb dX11_readRouter_160 ?_
                refine lv_topi (fun z102 e103 => ?_)
                obtain rfl : z102 = (1 : Int32) := e103.trans (by decide)
                refine lv_if_le (tgt := 168) hx hb dX11_readRouter_161 rfl (fun c9 => absurd c9 (by decide)) (fun _ => ?_)
                refine lv_aload_n hx hb dX11_readRouter_164 rfl (lv_at hl 2 rfl) ?_
                obtain ⟨hPc, hDc, hFc, hJn⟩ := cl_a (wc := [(m0, .inr (11, oX11 ra y40)), (ra 13, .inl (kI, 700, .inl q_tape))]) (wr := [(ra 2, .inl (kI, 8, .inl q_told)), (ra 3, .inl (kI, 24, .inl (upd q_kind (12 + (q_told 4)).toNatClampNeg r18))), (ra 4, .inl (kI, 24, .inl (upd q_salt (12 + (q_told 4)).toNatClampNeg r26))), (ra 5, .inl (kI, 24, .inl (upd q_pace (12 + (q_told 4)).toNatClampNeg r38))), (ra 6, .inl (kI, 24, .inl (upd q_mute (12 + (q_told 4)).toNatClampNeg 1))), (ra 7, .inl (kI, 24, .inl (upd q_late (12 + (q_told 4)).toNatClampNeg 0))), (ra 1, .inl (kS, 4, .inr (.inr (.inr (.inr q_kinds)))))]) hP hD hS hA [7, 8] [0, 1, 2, 3, 4, 5, 6] rfl rfl (by decide +kernel)
                refine va_callv (va_runV (As := []) (rest := []) ⟨hx, hb, hml, hown, hts⟩ (s11_stepOn l dC dI kB kI kJ kZ kC kS H.size m0 ra y40 q_tape tT nN (nextT tT nN (rtr4 tT nN sS)) (hq41) (hq_tape) (hrr49.2) (stp_of hrr49) (hTQ)) (cwV 0 hts gX11_readRouter_X11_stepOn rfl rfl rfl (by decide +kernel) ⟨Nat.le_of_ble_eq_true rfl, Nat.le_of_ble_eq_true rfl⟩) ⟨fun a U g mk q => by obtain ⟨q0, q1, qP, qE, qD⟩ := q; exact ⟨q0, q1, qP, kE_call qE, qD⟩, va_recv hK hP (ci := 11) (q0 := 7) rfl rfl, fun U hU hW => ⟨rfl, by rw [hU], by rw [hU]; exact hPc, kE_warm hW hE, hDc.weaken (fun _ _ _ _ => trivial)⟩⟩ rfl rfl hl.1 rfl (lv_room (Nat.le_of_ble_eq_true rfl)) dX11_readRouter_165 ⟨Nat.le_of_ble_eq_true rfl, Nat.le_of_ble_eq_true rfl⟩) hS (fun q _ h => hFc q h) hFc (fun u t H locs ht hvm w105 hB hz1 hk1 hS => ?_)
                obtain ⟨y106, hq107, hq108, hq109, hq110, hq111, hq112, hq113, hq114, hq115, hP1, hD1⟩ := hB
                try dsimp only at w105
                obtain ⟨hPa, hDa⟩ := hJn (w1 := [(m0, .inr (11, oX11 ra y106)), (ra 13, .inl (kI, 700, .inl q_tape))]) hk1 ht hP1 hD1
                clear hP hD hPc hDc hFc hJn hP1 hD1 hk1
                have hP : va_P (dC, dI) vwCl [(ra 2, .inl (kI, 8, .inl q_told)), (ra 3, .inl (kI, 24, .inl (upd q_kind (12 + (q_told 4)).toNatClampNeg r18))), (ra 4, .inl (kI, 24, .inl (upd q_salt (12 + (q_told 4)).toNatClampNeg r26))), (ra 5, .inl (kI, 24, .inl (upd q_pace (12 + (q_told 4)).toNatClampNeg r38))), (ra 6, .inl (kI, 24, .inl (upd q_mute (12 + (q_told 4)).toNatClampNeg 1))), (ra 7, .inl (kI, 24, .inl (upd q_late (12 + (q_told 4)).toNatClampNeg 0))), (ra 1, .inl (kS, 4, .inr (.inr (.inr (.inr q_kinds))))), (m0, .inr (11, oX11 ra y106)), (ra 13, .inl (kI, 700, .inl q_tape))] H := hPa
                have hD : va_D A [(ra 2, .inl (kI, 8, .inl q_told)), (ra 3, .inl (kI, 24, .inl (upd q_kind (12 + (q_told 4)).toNatClampNeg r18))), (ra 4, .inl (kI, 24, .inl (upd q_salt (12 + (q_told 4)).toNatClampNeg r26))), (ra 5, .inl (kI, 24, .inl (upd q_pace (12 + (q_told 4)).toNatClampNeg r38))), (ra 6, .inl (kI, 24, .inl (upd q_mute (12 + (q_told 4)).toNatClampNeg 1))), (ra 7, .inl (kI, 24, .inl (upd q_late (12 + (q_told 4)).toNatClampNeg 0))), (ra 1, .inl (kS, 4, .inr (.inr (.inr (.inr q_kinds))))), (m0, .inr (11, oX11 ra y106)), (ra 13, .inl (kI, 700, .inl q_tape))] := hDa
                clear hPa hDa
                refine W.widen (k := 0) (n := 0) (Nat.le_of_ble_eq_true rfl) (Nat.le_of_ble_eq_true rfl) ?_
                have hrr116 : RRd tT nN y106 (manT tT nN (rtr4 tT nN sS)) := (mq_s hrr49 c97 (Or.inl c53)) ▸ hq111
                refine lv_aload_n hx hb dX11_readRouter_168 rfl (lv_at hl 2 rfl) ?_
                refine va_get (D := (dC, dI)) (ci := 11) (v := .ref (ra 2)) (C := RX11) (T := TX11) (N := 61) hx hb hts hin11 hown hK hP 7 rfl rfl 3 (Nat.le_of_ble_eq_true rfl) hw_0 (fun _ h9 => h9) rfl dX11_readRouter_169 ?_
                refine lv_iconst (v := 4) hx hb dX11_readRouter_172 ic_4 ?_
                refine lv_dup2_11 hx hb dX11_readRouter_173 rfl rfl ?_
                refine va_iald hx hb hK hP 0 1 rfl rfl (vp_in_nI (n := 4) (by decide) (by decide)) dX11_readRouter_174 ?_
                refine W.eq (g2 := F0 m 175 ls [.int (q_told 4), .int 4, .ref (ra 2)]) rfl ?_
                refine lv_iconst (v := 1) hx hb dX11_readRouter_175 ic_1 ?_
                refine lv_iadd hx hb dX11_readRouter_176 ?_
                have b117 : iv 1 12 ((q_told 4) + 1) := iv_add b2 ivk_1 (by decide) (by decide) (by decide) (by decide)
                refine va_iast hx hb hK hP hD hS 0 1 rfl rfl (vp_in_nI (n := 4) (by decide) (by decide)) dX11_readRouter_177 (fun H locs hPa hDa hS => ?_)
                clear hP hD
                have hP : va_P (dC, dI) vwCl [(ra 2, .inl (kI, 8, .inl (upd q_told 4 ((q_told 4) + 1)))), (ra 3, .inl (kI, 24, .inl (upd q_kind (12 + (q_told 4)).toNatClampNeg r18))), (ra 4, .inl (kI, 24, .inl (upd q_salt (12 + (q_told 4)).toNatClampNeg r26))), (ra 5, .inl (kI, 24, .inl (upd q_pace (12 + (q_told 4)).toNatClampNeg r38))), (ra 6, .inl (kI, 24, .inl (upd q_mute (12 + (q_told 4)).toNatClampNeg 1))), (ra 7, .inl (kI, 24, .inl (upd q_late (12 + (q_told 4)).toNatClampNeg 0))), (ra 1, .inl (kS, 4, .inr (.inr (.inr (.inr q_kinds))))), (m0, .inr (11, oX11 ra y106)), (ra 13, .inl (kI, 700, .inl q_tape))] H := hPa
                have hD : va_D A [(ra 2, .inl (kI, 8, .inl (upd q_told 4 ((q_told 4) + 1)))), (ra 3, .inl (kI, 24, .inl (upd q_kind (12 + (q_told 4)).toNatClampNeg r18))), (ra 4, .inl (kI, 24, .inl (upd q_salt (12 + (q_told 4)).toNatClampNeg r26))), (ra 5, .inl (kI, 24, .inl (upd q_pace (12 + (q_told 4)).toNatClampNeg r38))), (ra 6, .inl (kI, 24, .inl (upd q_mute (12 + (q_told 4)).toNatClampNeg 1))), (ra 7, .inl (kI, 24, .inl (upd q_late (12 + (q_told 4)).toNatClampNeg 0))), (ra 1, .inl (kS, 4, .inr (.inr (.inr (.inr q_kinds))))), (m0, .inr (11, oX11 ra y106)), (ra 13, .inl (kI, 700, .inl q_tape))] := hDa
                clear hPa hDa
                have hPD9 := cl_s (wc := [(m0, .inr (11, oX11 ra y106)), (ra 2, .inl (kI, 8, .inl (upd q_told 4 ((q_told 4) + 1)))), (ra 3, .inl (kI, 24, .inl (upd q_kind (12 + (q_told 4)).toNatClampNeg r18))), (ra 4, .inl (kI, 24, .inl (upd q_salt (12 + (q_told 4)).toNatClampNeg r26))), (ra 5, .inl (kI, 24, .inl (upd q_pace (12 + (q_told 4)).toNatClampNeg r38))), (ra 6, .inl (kI, 24, .inl (upd q_mute (12 + (q_told 4)).toNatClampNeg 1))), (ra 7, .inl (kI, 24, .inl (upd q_late (12 + (q_told 4)).toNatClampNeg 0))), (ra 13, .inl (kI, 700, .inl q_tape)), (ra 1, .inl (kS, 4, .inr (.inr (.inr (.inr q_kinds)))))]) hP hD [7, 0, 1, 2, 3, 4, 5, 8, 6] rfl (by decide +kernel)
                have hP9 := hPD9.1
                have hD9 := hPD9.2
                exact W.vret hx hb hr (fun t ht hW => ⟨⟨(), rfl, trivial, y106, upd q_told 4 ((q_told 4) + 1), upd q_kind (12 + (q_told 4)).toNatClampNeg r18, upd q_salt (12 + (q_told 4)).toNatClampNeg r26, upd q_pace (12 + (q_told 4)).toNatClampNeg r38, upd q_mute (12 + (q_told 4)).toNatClampNeg 1, upd q_late (12 + (q_told 4)).toNatClampNeg 0, hq107, (fI_u hq_told (k := 4) ((iv_w b117 (by decide) (by decide)))), (fI_u hq_salt (k := (12 + (q_told 4)).toNatClampNeg) (w27.1)), (show (x0 2).toInt ≤ (y106 2).toInt from by omega), (show y106 3 = x0 3 from hq109.trans (hq43.trans (hq31.trans (hq10)))), (show ∀ j : Nat, (j : Int) < (q_told 1).toInt → (q_from j).toInt < (q_to j).toInt from hLT), (show ∀ j : Nat, (j : Int) < (q_told 5).toInt → (q_from (20 + j)).toInt < (q_to (20 + j)).toInt from hLD), (show RRd tT nN y106 (rtrS tT nN sS (q_told 4)) from it_f (Q := RRd tT nN y106) c1 (hrr116)), fun _ => ⟨rfl, congrArg (upd q_kind ((12 + (q_told 4)).toNatClampNeg)) ((kq_y hwk c20).2 (ok_next (ok_num (ok_next (ok_num (ok_next (rr_ok hrr49 c97))))))), congrArg (upd q_salt ((12 + (q_told 4)).toNatClampNeg)) (hv2 (ok_next (ok_num (ok_next (rr_ok hrr49 c97))))), congrArg (upd q_pace ((12 + (q_told 4)).toNatClampNeg)) (hv3 (ok_next (rr_ok hrr49 c97))), congrArg (upd q_mute ((12 + (q_told 4)).toNatClampNeg)) (wS_1 c53), congrArg (upd q_late ((12 + (q_told 4)).toNatClampNeg)) c95.symm⟩, low_t (by decide), lw12_u (iv_w b2 (by decide) (by decide)), lw12_u (iv_w b2 (by decide) (by decide)), (show y106 1 = x0 1 from hq112.trans (hq45.trans (hq33.trans (hq13)))), (show y106 10 = x0 10 from hq113.trans (hq46.trans (hq34.trans (hq14)))), (show y106 11 = x0 11 from hq114.trans (hq47.trans (hq35.trans (hq15)))), (show y106 14 = x0 14 from hq115.trans (hq48.trans (hq36.trans (hq16)))), by rw [ht]; exact hP9, hD9⟩, hS.F ht⟩) hS.2.2 dX11_readRouter_178
            · have b118 : iv 1 1 (wS tT 9 (rtr4 tT nN sS)) := iv_neLo c95 b94 ivk_0 (by decide) (by decide)
              refine lv_iconst (v := 1) hx hb dX11_readRouter_135 ic_1 ?_
              refine lv_goto (tgt := 140) hx hb dX11_readRouter_136 rfl ?_
              refine va_iast hx hb hK hP hD hS 5 1 rfl rfl (iv_in b17 (by decide) (by decide)) dX11_readRouter_140 (fun H locs hPa hDa hS => ?_)
              clear hP hD
              have hP : va_P (dC, dI) vwCl [(ra 2, .inl (kI, 8, .inl q_told)), (ra 3, .inl (kI, 24, .inl (upd q_kind (12 + (q_told 4)).toNatClampNeg r18))), (ra 4, .inl (kI, 24, .inl (upd q_salt (12 + (q_told 4)).toNatClampNeg r26))), (ra 5, .inl (kI, 24, .inl (upd q_pace (12 + (q_told 4)).toNatClampNeg r38))), (ra 6, .inl (kI, 24, .inl (upd q_mute (12 + (q_told 4)).toNatClampNeg 1))), (ra 7, .inl (kI, 24, .inl (upd q_late (12 + (q_told 4)).toNatClampNeg 1))), (ra 1, .inl (kS, 4, .inr (.inr (.inr (.inr q_kinds))))), (m0, .inr (11, oX11 ra y40)), (ra 13, .inl (kI, 700, .inl q_tape))] H := hPa
              have hD : va_D A [(ra 2, .inl (kI, 8, .inl q_told)), (ra 3, .inl (kI, 24, .inl (upd q_kind (12 + (q_told 4)).toNatClampNeg r18))), (ra 4, .inl (kI, 24, .inl (upd q_salt (12 + (q_told 4)).toNatClampNeg r26))), (ra 5, .inl (kI, 24, .inl (upd q_pace (12 + (q_told 4)).toNatClampNeg r38))), (ra 6, .inl (kI, 24, .inl (upd q_mute (12 + (q_told 4)).toNatClampNeg 1))), (ra 7, .inl (kI, 24, .inl (upd q_late (12 + (q_told 4)).toNatClampNeg 1))), (ra 1, .inl (kS, 4, .inr (.inr (.inr (.inr q_kinds))))), (m0, .inr (11, oX11 ra y40)), (ra 13, .inl (kI, 700, .inl q_tape))] := hDa
              clear hPa hDa
              refine lv_aload_n hx hb dX11_readRouter_141 rfl (lv_at hl 2 rfl) ?_
              refine va_get (D := (dC, dI)) (ci := 11) (v := .int (y40 8)) (C := RX11) (T := TX11) (N := 61) hx hb hts hin11 hown hK hP 7 rfl rfl 22 (Nat.le_of_ble_eq_true rfl) hw_1 (fun _ h9 => h9) rfl dX11_readRouter_142 ?_
              refine lv_if_ne (tgt := 168) hx hb dX11_readRouter_145 rfl (fun c119 => ?_) (fun c119 => ?_)
              · have b120 : iv 1 5 (y40 8) := iv_neLo c119 (hq41 8 : iv 0 5 (y40 8)) ivk_0 (by decide) (by decide)
                have hrr121 : RRd tT nN y40 (manT tT nN (rtr4 tT nN sS)) := (mq_b hrr49 c119) ▸ hrr49
                refine lv_aload_n hx hb dX11_readRouter_168 rfl (lv_at hl 2 rfl) ?_
                refine va_get (D := (dC, dI)) (ci := 11) (v := .ref (ra 2)) (C := RX11) (T := TX11) (N := 61) hx hb hts hin11 hown hK hP 7 rfl rfl 3 (Nat.le_of_ble_eq_true rfl) hw_0 (fun _ h9 => h9) rfl dX11_readRouter_169 ?_
                refine lv_iconst (v := 4) hx hb dX11_readRouter_172 ic_4 ?_
                refine lv_dup2_11 hx hb dX11_readRouter_173 rfl rfl ?_
                refine va_iald hx hb hK hP 0 1 rfl rfl (vp_in_nI (n := 4) (by decide) (by decide)) dX11_readRouter_174 ?_
                refine W.eq (g2 := F0 m 175 ls [.int (q_told 4), .int 4, .ref (ra 2)]) rfl ?_
                refine lv_iconst (v := 1) hx hb dX11_readRouter_175 ic_1 ?_
                refine lv_iadd hx hb dX11_readRouter_176 ?_
                have b122 : iv 1 12 ((q_told 4) + 1) := iv_add b2 ivk_1 (by decide) (by decide) (by decide) (by decide)
                refine va_iast hx hb hK hP hD hS 0 1 rfl rfl (vp_in_nI (n := 4) (by decide) (by decide)) dX11_readRouter_177 (fun H locs hPa hDa hS => ?_)
                clear hP hD
                have hP : va_P (dC, dI) vwCl [(ra 2, .inl (kI, 8, .inl (upd q_told 4 ((q_told 4) + 1)))), (ra 3, .inl (kI, 24, .inl (upd q_kind (12 + (q_told 4)).toNatClampNeg r18))), (ra 4, .inl (kI, 24, .inl (upd q_salt (12 + (q_told 4)).toNatClampNeg r26))), (ra 5, .inl (kI, 24, .inl (upd q_pace (12 + (q_told 4)).toNatClampNeg r38))), (ra 6, .inl (kI, 24, .inl (upd q_mute (12 + (q_told 4)).toNatClampNeg 1))), (ra 7, .inl (kI, 24, .inl (upd q_late (12 + (q_told 4)).toNatClampNeg 1))), (ra 1, .inl (kS, 4, .inr (.inr (.inr (.inr q_kinds))))), (m0, .inr (11, oX11 ra y40)), (ra 13, .inl (kI, 700, .inl q_tape))] H := hPa
                have hD : va_D A [(ra 2, .inl (kI, 8, .inl (upd q_told 4 ((q_told 4) + 1)))), (ra 3, .inl (kI, 24, .inl (upd q_kind (12 + (q_told 4)).toNatClampNeg r18))), (ra 4, .inl (kI, 24, .inl (upd q_salt (12 + (q_told 4)).toNatClampNeg r26))), (ra 5, .inl (kI, 24, .inl (upd q_pace (12 + (q_told 4)).toNatClampNeg r38))), (ra 6, .inl (kI, 24, .inl (upd q_mute (12 + (q_told 4)).toNatClampNeg 1))), (ra 7, .inl (kI, 24, .inl (upd q_late (12 + (q_told 4)).toNatClampNeg 1))), (ra 1, .inl (kS, 4, .inr (.inr (.inr (.inr q_kinds))))), (m0, .inr (11, oX11 ra y40)), (ra 13, .inl (kI, 700, .inl q_tape))] := hDa
                clear hPa hDa
                have hPD9 := cl_s (wc := [(m0, .inr (11, oX11 ra y40)), (ra 2, .inl (kI, 8, .inl (upd q_told 4 ((q_told 4) + 1)))), (ra 3, .inl (kI, 24, .inl (upd q_kind (12 + (q_told 4)).toNatClampNeg r18))), (ra 4, .inl (kI, 24, .inl (upd q_salt (12 + (q_told 4)).toNatClampNeg r26))), (ra 5, .inl (kI, 24, .inl (upd q_pace (12 + (q_told 4)).toNatClampNeg r38))), (ra 6, .inl (kI, 24, .inl (upd q_mute (12 + (q_told 4)).toNatClampNeg 1))), (ra 7, .inl (kI, 24, .inl (upd q_late (12 + (q_told 4)).toNatClampNeg 1))), (ra 13, .inl (kI, 700, .inl q_tape)), (ra 1, .inl (kS, 4, .inr (.inr (.inr (.inr q_kinds)))))]) hP hD [7, 0, 1, 2, 3, 4, 5, 8, 6] rfl (by decide +kernel)
                have hP9 := hPD9.1
                have hD9 := hPD9.2
                exact W.vret hx hb hr (fun t ht hW => ⟨⟨(), rfl, trivial, y40, upd q_told 4 ((q_told 4) + 1), upd q_kind (12 + (q_told 4)).toNatClampNeg r18, upd q_salt (12 + (q_told 4)).toNatClampNeg r26, upd q_pace (12 + (q_told 4)).toNatClampNeg r38, upd q_mute (12 + (q_told 4)).toNatClampNeg 1, upd q_late (12 + (q_told 4)).toNatClampNeg 1, hq41, (fI_u hq_told (k := 4) ((iv_w b122 (by decide) (by decide)))), (fI_u hq_salt (k := (12 + (q_told 4)).toNatClampNeg) (w27.1)), (show (x0 2).toInt ≤ (y40 2).toInt from by omega), (show y40 3 = x0 3 from hq43.trans (hq31.trans (hq10))), (show ∀ j : Nat, (j : Int) < (q_told 1).toInt → (q_from j).toInt < (q_to j).toInt from hLT), (show ∀ j : Nat, (j : Int) < (q_told 5).toInt → (q_from (20 + j)).toInt < (q_to (20 + j)).toInt from hLD), (show RRd tT nN y40 (rtrS tT nN sS (q_told 4)) from it_f (Q := RRd tT nN y40) c1 (hrr121)), fun w => absurd w c119, low_t (by decide), lw12_u (iv_w b2 (by decide) (by decide)), lw12_u (iv_w b2 (by decide) (by decide)), (show y40 1 = x0 1 from hq45.trans (hq33.trans (hq13))), (show y40 10 = x0 10 from hq46.trans (hq34.trans (hq14))), (show y40 11 = x0 11 from hq47.trans (hq35.trans (hq15))), (show y40 14 = x0 14 from hq48.trans (hq36.trans (hq16))), by rw [ht]; exact hP9, hD9⟩, hS.F ht⟩) hS.2.2 dX11_readRouter_178
              · have b123 : iv 0 0 (y40 8) := iv_eqL c119 ivk_0
                refine lv_aload_n hx hb dX11_readRouter_148 rfl (lv_at hl 2 rfl) ?_
                refine va_get (D := (dC, dI)) (ci := 11) (v := .ref (ra 6)) (C := RX11) (T := TX11) (N := 61) hx hb hts hin11 hown hK hP 7 rfl rfl 7 (Nat.le_of_ble_eq_true rfl) hw_6 (fun _ h9 => h9) rfl dX11_readRouter_149 ?_
                refine lv_iload_n hx hb dX11_readRouter_152 rfl (lv_at hl 1 rfl) ?_
                refine va_iald hx hb hK hP 4 1 rfl rfl (iv_in b17 (by decide) (by decide)) dX11_readRouter_153 ?_
                refine W.eq (g2 := F0 m 154 ls [.int 1]) (by rw [upd_eq]) ?_
                refine lv_aload_n hx hb dX11_readRouter_154 rfl (lv_at hl 2 rfl) ?_
                refine va_get (D := (dC, dI)) (ci := 11) (v := .ref (ra 7)) (C := RX11) (T := TX11) (N := 61) hx hb hts hin11 hown hK hP 7 rfl rfl 8 (Nat.le_of_ble_eq_true rfl) hw_7 (fun _ h9 => h9) rfl dX11_readRouter_155 ?_
                refine lv_iload_n hx hb dX11_readRouter_158 rfl (lv_at hl 1 rfl) ?_
                refine va_iald hx hb hK hP 5 1 rfl rfl (iv_in b17 (by decide) (by decide)) dX11_readRouter_159 ?_
                refine W.eq (g2 := F0 m 160 ls [.int 1, .int 1]) (by rw [upd_eq]) ?_
                refine lv_iadd hx hb dX11_readRouter_160 ?_
                refine lv_topi (fun z124 e125 => ?_)
                obtain rfl : z124 = (2 : Int32) := e125.trans (by decide)
                refine lv_if_le (tgt := 168) hx hb dX11_readRouter_161 rfl (fun c9 => absurd c9 (by decide)) (fun _ => ?_)
                refine lv_aload_n hx hb dX11_readRouter_164 rfl (lv_at hl 2 rfl) ?_
                obtain ⟨hPc, hDc, hFc, hJn⟩ := cl_a (wc := [(m0, .inr (11, oX11 ra y40)), (ra 13, .inl (kI, 700, .inl q_tape))]) (wr := [(ra 2, .inl (kI, 8, .inl q_told)), (ra 3, .inl (kI, 24, .inl (upd q_kind (12 + (q_told 4)).toNatClampNeg r18))), (ra 4, .inl (kI, 24, .inl (upd q_salt (12 + (q_told 4)).toNatClampNeg r26))), (ra 5, .inl (kI, 24, .inl (upd q_pace (12 + (q_told 4)).toNatClampNeg r38))), (ra 6, .inl (kI, 24, .inl (upd q_mute (12 + (q_told 4)).toNatClampNeg 1))), (ra 7, .inl (kI, 24, .inl (upd q_late (12 + (q_told 4)).toNatClampNeg 1))), (ra 1, .inl (kS, 4, .inr (.inr (.inr (.inr q_kinds)))))]) hP hD hS hA [7, 8] [0, 1, 2, 3, 4, 5, 6] rfl rfl (by decide +kernel)
                refine va_callv (va_runV (As := []) (rest := []) ⟨hx, hb, hml, hown, hts⟩ (s11_stepOn l dC dI kB kI kJ kZ kC kS H.size m0 ra y40 q_tape tT nN (nextT tT nN (rtr4 tT nN sS)) (hq41) (hq_tape) (hrr49.2) (stp_of hrr49) (hTQ)) (cwV 0 hts gX11_readRouter_X11_stepOn rfl rfl rfl (by decide +kernel) ⟨Nat.le_of_ble_eq_true rfl, Nat.le_of_ble_eq_true rfl⟩) ⟨fun a U g mk q => by obtain ⟨q0, q1, qP, qE, qD⟩ := q; exact ⟨q0, q1, qP, kE_call qE, qD⟩, va_recv hK hP (ci := 11) (q0 := 7) rfl rfl, fun U hU hW => ⟨rfl, by rw [hU], by rw [hU]; exact hPc, kE_warm hW hE, hDc.weaken (fun _ _ _ _ => trivial)⟩⟩ rfl rfl hl.1 rfl (lv_room (Nat.le_of_ble_eq_true rfl)) dX11_readRouter_165 ⟨Nat.le_of_ble_eq_true rfl, Nat.le_of_ble_eq_true rfl⟩) hS (fun q _ h => hFc q h) hFc (fun u t H locs ht hvm w127 hB hz1 hk1 hS => ?_)
                obtain ⟨y128, hq129, hq130, hq131, hq132, hq133, hq134, hq135, hq136, hq137, hP1, hD1⟩ := hB
                try dsimp only at w127
                obtain ⟨hPa, hDa⟩ := hJn (w1 := [(m0, .inr (11, oX11 ra y128)), (ra 13, .inl (kI, 700, .inl q_tape))]) hk1 ht hP1 hD1
                clear hP hD hPc hDc hFc hJn hP1 hD1 hk1
                have hP : va_P (dC, dI) vwCl [(ra 2, .inl (kI, 8, .inl q_told)), (ra 3, .inl (kI, 24, .inl (upd q_kind (12 + (q_told 4)).toNatClampNeg r18))), (ra 4, .inl (kI, 24, .inl (upd q_salt (12 + (q_told 4)).toNatClampNeg r26))), (ra 5, .inl (kI, 24, .inl (upd q_pace (12 + (q_told 4)).toNatClampNeg r38))), (ra 6, .inl (kI, 24, .inl (upd q_mute (12 + (q_told 4)).toNatClampNeg 1))), (ra 7, .inl (kI, 24, .inl (upd q_late (12 + (q_told 4)).toNatClampNeg 1))), (ra 1, .inl (kS, 4, .inr (.inr (.inr (.inr q_kinds))))), (m0, .inr (11, oX11 ra y128)), (ra 13, .inl (kI, 700, .inl q_tape))] H := hPa
                have hD : va_D A [(ra 2, .inl (kI, 8, .inl q_told)), (ra 3, .inl (kI, 24, .inl (upd q_kind (12 + (q_told 4)).toNatClampNeg r18))), (ra 4, .inl (kI, 24, .inl (upd q_salt (12 + (q_told 4)).toNatClampNeg r26))), (ra 5, .inl (kI, 24, .inl (upd q_pace (12 + (q_told 4)).toNatClampNeg r38))), (ra 6, .inl (kI, 24, .inl (upd q_mute (12 + (q_told 4)).toNatClampNeg 1))), (ra 7, .inl (kI, 24, .inl (upd q_late (12 + (q_told 4)).toNatClampNeg 1))), (ra 1, .inl (kS, 4, .inr (.inr (.inr (.inr q_kinds))))), (m0, .inr (11, oX11 ra y128)), (ra 13, .inl (kI, 700, .inl q_tape))] := hDa
                clear hPa hDa
                refine W.widen (k := 0) (n := 0) (Nat.le_of_ble_eq_true rfl) (Nat.le_of_ble_eq_true rfl) ?_
                have hrr138 : RRd tT nN y128 (manT tT nN (rtr4 tT nN sS)) := (mq_s hrr49 c119 (Or.inl c53)) ▸ hq133
                refine lv_aload_n hx hb dX11_readRouter_168 rfl (lv_at hl 2 rfl) ?_
                refine va_get (D := (dC, dI)) (ci := 11) (v := .ref (ra 2)) (C := RX11) (T := TX11) (N := 61) hx hb hts hin11 hown hK hP 7 rfl rfl 3 (Nat.le_of_ble_eq_true rfl) hw_0 (fun _ h9 => h9) rfl dX11_readRouter_169 ?_
                refine lv_iconst (v := 4) hx hb dX11_readRouter_172 ic_4 ?_
                refine lv_dup2_11 hx hb dX11_readRouter_173 rfl rfl ?_
                refine va_iald hx hb hK hP 0 1 rfl rfl (vp_in_nI (n := 4) (by decide) (by decide)) dX11_readRouter_174 ?_
                refine W.eq (g2 := F0 m 175 ls [.int (q_told 4), .int 4, .ref (ra 2)]) rfl ?_
                refine lv_iconst (v := 1) hx hb dX11_readRouter_175 ic_1 ?_
                refine lv_iadd hx hb dX11_readRouter_176 ?_
                have b139 : iv 1 12 ((q_told 4) + 1) := iv_add b2 ivk_1 (by decide) (by decide) (by decide) (by decide)
                refine va_iast hx hb hK hP hD hS 0 1 rfl rfl (vp_in_nI (n := 4) (by decide) (by decide)) dX11_readRouter_177 (fun H locs hPa hDa hS => ?_)
                clear hP hD
                have hP : va_P (dC, dI) vwCl [(ra 2, .inl (kI, 8, .inl (upd q_told 4 ((q_told 4) + 1)))), (ra 3, .inl (kI, 24, .inl (upd q_kind (12 + (q_told 4)).toNatClampNeg r18))), (ra 4, .inl (kI, 24, .inl (upd q_salt (12 + (q_told 4)).toNatClampNeg r26))), (ra 5, .inl (kI, 24, .inl (upd q_pace (12 + (q_told 4)).toNatClampNeg r38))), (ra 6, .inl (kI, 24, .inl (upd q_mute (12 + (q_told 4)).toNatClampNeg 1))), (ra 7, .inl (kI, 24, .inl (upd q_late (12 + (q_told 4)).toNatClampNeg 1))), (ra 1, .inl (kS, 4, .inr (.inr (.inr (.inr q_kinds))))), (m0, .inr (11, oX11 ra y128)), (ra 13, .inl (kI, 700, .inl q_tape))] H := hPa
                have hD : va_D A [(ra 2, .inl (kI, 8, .inl (upd q_told 4 ((q_told 4) + 1)))), (ra 3, .inl (kI, 24, .inl (upd q_kind (12 + (q_told 4)).toNatClampNeg r18))), (ra 4, .inl (kI, 24, .inl (upd q_salt (12 + (q_told 4)).toNatClampNeg r26))), (ra 5, .inl (kI, 24, .inl (upd q_pace (12 + (q_told 4)).toNatClampNeg r38))), (ra 6, .inl (kI, 24, .inl (upd q_mute (12 + (q_told 4)).toNatClampNeg 1))), (ra 7, .inl (kI, 24, .inl (upd q_late (12 + (q_told 4)).toNatClampNeg 1))), (ra 1, .inl (kS, 4, .inr (.inr (.inr (.inr q_kinds))))), (m0, .inr (11, oX11 ra y128)), (ra 13, .inl (kI, 700, .inl q_tape))] := hDa
                clear hPa hDa
                have hPD9 := cl_s (wc := [(m0, .inr (11, oX11 ra y128)), (ra 2, .inl (kI, 8, .inl (upd q_told 4 ((q_told 4) + 1)))), (ra 3, .inl (kI, 24, .inl (upd q_kind (12 + (q_told 4)).toNatClampNeg r18))), (ra 4, .inl (kI, 24, .inl (upd q_salt (12 + (q_told 4)).toNatClampNeg r26))), (ra 5, .inl (kI, 24, .inl (upd q_pace (12 + (q_told 4)).toNatClampNeg r38))), (ra 6, .inl (kI, 24, .inl (upd q_mute (12 + (q_told 4)).toNatClampNeg 1))), (ra 7, .inl (kI, 24, .inl (upd q_late (12 + (q_told 4)).toNatClampNeg 1))), (ra 13, .inl (kI, 700, .inl q_tape)), (ra 1, .inl (kS, 4, .inr (.inr (.inr (.inr q_kinds)))))]) hP hD [7, 0, 1, 2, 3, 4, 5, 8, 6] rfl (by decide +kernel)
                have hP9 := hPD9.1
                have hD9 := hPD9.2
                exact W.vret hx hb hr (fun t ht hW => ⟨⟨(), rfl, trivial, y128, upd q_told 4 ((q_told 4) + 1), upd q_kind (12 + (q_told 4)).toNatClampNeg r18, upd q_salt (12 + (q_told 4)).toNatClampNeg r26, upd q_pace (12 + (q_told 4)).toNatClampNeg r38, upd q_mute (12 + (q_told 4)).toNatClampNeg 1, upd q_late (12 + (q_told 4)).toNatClampNeg 1, hq129, (fI_u hq_told (k := 4) ((iv_w b139 (by decide) (by decide)))), (fI_u hq_salt (k := (12 + (q_told 4)).toNatClampNeg) (w27.1)), (show (x0 2).toInt ≤ (y128 2).toInt from by omega), (show y128 3 = x0 3 from hq131.trans (hq43.trans (hq31.trans (hq10)))), (show ∀ j : Nat, (j : Int) < (q_told 1).toInt → (q_from j).toInt < (q_to j).toInt from hLT), (show ∀ j : Nat, (j : Int) < (q_told 5).toInt → (q_from (20 + j)).toInt < (q_to (20 + j)).toInt from hLD), (show RRd tT nN y128 (rtrS tT nN sS (q_told 4)) from it_f (Q := RRd tT nN y128) c1 (hrr138)), fun _ => ⟨rfl, congrArg (upd q_kind ((12 + (q_told 4)).toNatClampNeg)) ((kq_y hwk c20).2 (ok_next (ok_num (ok_next (ok_num (ok_next (rr_ok hrr49 c119))))))), congrArg (upd q_salt ((12 + (q_told 4)).toNatClampNeg)) (hv2 (ok_next (ok_num (ok_next (rr_ok hrr49 c119))))), congrArg (upd q_pace ((12 + (q_told 4)).toNatClampNeg)) (hv3 (ok_next (rr_ok hrr49 c119))), congrArg (upd q_mute ((12 + (q_told 4)).toNatClampNeg)) (wS_1 c53), congrArg (upd q_late ((12 + (q_told 4)).toNatClampNeg)) (wS_1 c95)⟩, low_t (by decide), lw12_u (iv_w b2 (by decide) (by decide)), lw12_u (iv_w b2 (by decide) (by decide)), (show y128 1 = x0 1 from hq134.trans (hq45.trans (hq33.trans (hq13)))), (show y128 10 = x0 10 from hq135.trans (hq46.trans (hq34.trans (hq14)))), (show y128 11 = x0 11 from hq136.trans (hq47.trans (hq35.trans (hq15)))), (show y128 14 = x0 14 from hq137.trans (hq48.trans (hq36.trans (hq16)))), by rw [ht]; exact hP9, hD9⟩, hS.F ht⟩) hS.2.2 dX11_readRouter_178
        · have b140 : iv 0 0 (y7 8) := iv_eqL c23 ivk_0
          refine lv_aload_n hx hb dX11_readRouter_64 rfl (lv_at hl 2 rfl) ?_
          obtain ⟨hPc, hDc, hFc, hJn⟩ := cl_a (wc := [(m0, .inr (11, oX11 ra y7)), (ra 13, .inl (kI, 700, .inl q_tape))]) (wr := [(ra 2, .inl (kI, 8, .inl q_told)), (ra 3, .inl (kI, 24, .inl q_kind)), (ra 4, .inl (kI, 24, .inl q_salt)), (ra 5, .inl (kI, 24, .inl q_pace)), (ra 6, .inl (kI, 24, .inl q_mute)), (ra 7, .inl (kI, 24, .inl q_late)), (ra 1, .inl (kS, 4, .inr (.inr (.inr (.inr q_kinds)))))]) hP hD hS hA [6, 7] [0, 1, 2, 3, 4, 5, 8] rfl rfl (by decide +kernel)
          refine va_callv (va_runV (As := []) (rest := []) ⟨hx, hb, hml, hown, hts⟩ (s11_stepOn l dC dI kB kI kJ kZ kC kS H.size m0 ra y7 q_tape tT nN (nextT tT nN (kndT tT (rtr1 tT nN sS))) (hq8) (hq_tape) (hrr22.2) (stp_of hrr22) (hTQ)) (cwV 0 hts gX11_readRouter_X11_stepOn rfl rfl rfl (by decide +kernel) ⟨Nat.le_of_ble_eq_true rfl, Nat.le_of_ble_eq_true rfl⟩) ⟨fun a U g mk q => by obtain ⟨q0, q1, qP, qE, qD⟩ := q; exact ⟨q0, q1, qP, kE_call qE, qD⟩, va_recv hK hP (ci := 11) (q0 := 6) rfl rfl, fun U hU hW => ⟨rfl, by rw [hU], by rw [hU]; exact hPc, kE_warm hW hE, hDc.weaken (fun _ _ _ _ => trivial)⟩⟩ rfl rfl hl.1 rfl (lv_room (Nat.le_of_ble_eq_true rfl)) dX11_readRouter_65 ⟨Nat.le_of_ble_eq_true rfl, Nat.le_of_ble_eq_true rfl⟩) hS (fun q _ h => hFc q h) hFc (fun u t H locs ht hvm w142 hB hz1 hk1 hS => ?_)
          obtain ⟨y143, hq144, hq145, hq146, hq147, hq148, hq149, hq150, hq151, hq152, hP1, hD1⟩ := hB
          try dsimp only at w142
          obtain ⟨hPa, hDa⟩ := hJn (w1 := [(m0, .inr (11, oX11 ra y143)), (ra 13, .inl (kI, 700, .inl q_tape))]) hk1 ht hP1 hD1
          clear hP hD hPc hDc hFc hJn hP1 hD1 hk1
          have hP : va_P (dC, dI) vwCl [(ra 2, .inl (kI, 8, .inl q_told)), (ra 3, .inl (kI, 24, .inl q_kind)), (ra 4, .inl (kI, 24, .inl q_salt)), (ra 5, .inl (kI, 24, .inl q_pace)), (ra 6, .inl (kI, 24, .inl q_mute)), (ra 7, .inl (kI, 24, .inl q_late)), (ra 1, .inl (kS, 4, .inr (.inr (.inr (.inr q_kinds))))), (m0, .inr (11, oX11 ra y143)), (ra 13, .inl (kI, 700, .inl q_tape))] H := hPa
          have hD : va_D A [(ra 2, .inl (kI, 8, .inl q_told)), (ra 3, .inl (kI, 24, .inl q_kind)), (ra 4, .inl (kI, 24, .inl q_salt)), (ra 5, .inl (kI, 24, .inl q_pace)), (ra 6, .inl (kI, 24, .inl q_mute)), (ra 7, .inl (kI, 24, .inl q_late)), (ra 1, .inl (kS, 4, .inr (.inr (.inr (.inr q_kinds))))), (m0, .inr (11, oX11 ra y143)), (ra 13, .inl (kI, 700, .inl q_tape))] := hDa
          clear hPa hDa
          refine W.widen (k := 0) (n := 0) (Nat.le_of_ble_eq_true rfl) (Nat.le_of_ble_eq_true rfl) ?_
          have hrr153 : RRd tT nN y143 (rtr2 tT nN sS) := hq148
          refine lv_aload_n hx hb dX11_readRouter_68 rfl (lv_at hl 2 rfl) ?_
          refine va_get (D := (dC, dI)) (ci := 11) (v := .ref (ra 3)) (C := RX11) (T := TX11) (N := 61) hx hb hts hin11 hown hK hP 7 rfl rfl 4 (Nat.le_of_ble_eq_true rfl) hw_3 (fun _ h9 => h9) rfl dX11_readRouter_69 ?_
          refine lv_iload_n hx hb dX11_readRouter_72 rfl (lv_at hl 1 rfl) ?_
          refine lv_iload_n hx hb dX11_readRouter_73 rfl (lv_at hl 0 rfl) ?_
          refine va_iast hx hb hK hP hD hS 1 1 rfl rfl (iv_in b17 (by decide) (by decide)) dX11_readRouter_74 (fun H locs hPa hDa hS => ?_)
          clear hP hD
          have hP : va_P (dC, dI) vwCl [(ra 2, .inl (kI, 8, .inl q_told)), (ra 3, .inl (kI, 24, .inl (upd q_kind (12 + (q_told 4)).toNatClampNeg r18))), (ra 4, .inl (kI, 24, .inl q_salt)), (ra 5, .inl (kI, 24, .inl q_pace)), (ra 6, .inl (kI, 24, .inl q_mute)), (ra 7, .inl (kI, 24, .inl q_late)), (ra 1, .inl (kS, 4, .inr (.inr (.inr (.inr q_kinds))))), (m0, .inr (11, oX11 ra y143)), (ra 13, .inl (kI, 700, .inl q_tape))] H := hPa
          have hD : va_D A [(ra 2, .inl (kI, 8, .inl q_told)), (ra 3, .inl (kI, 24, .inl (upd q_kind (12 + (q_told 4)).toNatClampNeg r18))), (ra 4, .inl (kI, 24, .inl q_salt)), (ra 5, .inl (kI, 24, .inl q_pace)), (ra 6, .inl (kI, 24, .inl q_mute)), (ra 7, .inl (kI, 24, .inl q_late)), (ra 1, .inl (kS, 4, .inr (.inr (.inr (.inr q_kinds))))), (m0, .inr (11, oX11 ra y143)), (ra 13, .inl (kI, 700, .inl q_tape))] := hDa
          clear hPa hDa
          refine lv_aload_n hx hb dX11_readRouter_75 rfl (lv_at hl 2 rfl) ?_
          refine va_get (D := (dC, dI)) (ci := 11) (v := .ref (ra 4)) (C := RX11) (T := TX11) (N := 61) hx hb hts hin11 hown hK hP 7 rfl rfl 5 (Nat.le_of_ble_eq_true rfl) hw_4 (fun _ h9 => h9) rfl dX11_readRouter_76 ?_
          refine lv_iload_n hx hb dX11_readRouter_79 rfl (lv_at hl 1 rfl) ?_
          refine lv_aload_n hx hb dX11_readRouter_80 rfl (lv_at hl 2 rfl) ?_
          refine lv_iconst (v := 0) hx hb dX11_readRouter_81 ic_0 ?_
          refine lv_bipush (v := 15) hx hb dX11_readRouter_82 bp_15 ?_
          obtain ⟨hPc, hDc, hFc, hJn⟩ := cl_a (wc := [(m0, .inr (11, oX11 ra y143)), (ra 13, .inl (kI, 700, .inl q_tape))]) (wr := [(ra 2, .inl (kI, 8, .inl q_told)), (ra 3, .inl (kI, 24, .inl (upd q_kind (12 + (q_told 4)).toNatClampNeg r18))), (ra 4, .inl (kI, 24, .inl q_salt)), (ra 5, .inl (kI, 24, .inl q_pace)), (ra 6, .inl (kI, 24, .inl q_mute)), (ra 7, .inl (kI, 24, .inl q_late)), (ra 1, .inl (kS, 4, .inr (.inr (.inr (.inr q_kinds)))))]) hP hD hS hA [7, 8] [0, 1, 2, 3, 4, 5, 6] rfl rfl (by decide +kernel)
          refine va_calli (va_runV (As := [.int 0, .int 15]) (rest := [.int (12 + (q_told 4)), .ref (ra 4)]) ⟨hx, hb, hml, hown, hts⟩ (s11_readNumber_0_15 l dC dI kB kI kJ kZ kC kS H.size m0 ra y143 q_tape tT nN (rtr2 tT nN sS) (hq144) (hq_tape) (hrr153) (hTQ)) (cwV 2 hts gX11_readRouter_X11_readNumber rfl rfl rfl (by decide +kernel) ⟨Nat.le_of_ble_eq_true rfl, Nat.le_of_ble_eq_true rfl⟩) ⟨fun a U g mk q => by obtain ⟨q0, q1, qP, qE, qD⟩ := q; exact ⟨q0, q1, qP, kE_call qE, qD⟩, va_recv hK hP (ci := 11) (q0 := 7) rfl rfl, fun U hU hW => ⟨rfl, by rw [hU], by rw [hU]; exact hPc, kE_warm hW hE, hDc.weaken (fun _ _ _ _ => trivial)⟩⟩ rfl rfl hl.1 rfl (lv_room (Nat.le_of_ble_eq_true rfl)) dX11_readRouter_84 ⟨Nat.le_of_ble_eq_true rfl, Nat.le_of_ble_eq_true rfl⟩) hS (fun q _ h => hFc q h) hFc (fun r154 u t H locs ht hvm w155 hB hz1 hk1 hS => ?_)
          obtain ⟨y156, hq157, hq158, hq159, hq160, hq161, hq162, hq163, hq164, hP1, hD1⟩ := hB
          try dsimp only at w155
          obtain ⟨hPa, hDa⟩ := hJn (w1 := [(m0, .inr (11, oX11 ra y156)), (ra 13, .inl (kI, 700, .inl q_tape))]) hk1 ht hP1 hD1
          clear hP hD hPc hDc hFc hJn hP1 hD1 hk1
          have hP : va_P (dC, dI) vwCl [(ra 2, .inl (kI, 8, .inl q_told)), (ra 3, .inl (kI, 24, .inl (upd q_kind (12 + (q_told 4)).toNatClampNeg r18))), (ra 4, .inl (kI, 24, .inl q_salt)), (ra 5, .inl (kI, 24, .inl q_pace)), (ra 6, .inl (kI, 24, .inl q_mute)), (ra 7, .inl (kI, 24, .inl q_late)), (ra 1, .inl (kS, 4, .inr (.inr (.inr (.inr q_kinds))))), (m0, .inr (11, oX11 ra y156)), (ra 13, .inl (kI, 700, .inl q_tape))] H := hPa
          have hD : va_D A [(ra 2, .inl (kI, 8, .inl q_told)), (ra 3, .inl (kI, 24, .inl (upd q_kind (12 + (q_told 4)).toNatClampNeg r18))), (ra 4, .inl (kI, 24, .inl q_salt)), (ra 5, .inl (kI, 24, .inl q_pace)), (ra 6, .inl (kI, 24, .inl q_mute)), (ra 7, .inl (kI, 24, .inl q_late)), (ra 1, .inl (kS, 4, .inr (.inr (.inr (.inr q_kinds))))), (m0, .inr (11, oX11 ra y156)), (ra 13, .inl (kI, 700, .inl q_tape))] := hDa
          clear hPa hDa
          refine W.widen (k := 0) (n := 0) (Nat.le_of_ble_eq_true rfl) (Nat.le_of_ble_eq_true rfl) ?_
          have hv2 := w155.2
          refine va_iast hx hb hK hP hD hS 2 1 rfl rfl (iv_in b17 (by decide) (by decide)) dX11_readRouter_87 (fun H locs hPa hDa hS => ?_)
          clear hP hD
          have hP : va_P (dC, dI) vwCl [(ra 2, .inl (kI, 8, .inl q_told)), (ra 3, .inl (kI, 24, .inl (upd q_kind (12 + (q_told 4)).toNatClampNeg r18))), (ra 4, .inl (kI, 24, .inl (upd q_salt (12 + (q_told 4)).toNatClampNeg r154))), (ra 5, .inl (kI, 24, .inl q_pace)), (ra 6, .inl (kI, 24, .inl q_mute)), (ra 7, .inl (kI, 24, .inl q_late)), (ra 1, .inl (kS, 4, .inr (.inr (.inr (.inr q_kinds))))), (m0, .inr (11, oX11 ra y156)), (ra 13, .inl (kI, 700, .inl q_tape))] H := hPa
          have hD : va_D A [(ra 2, .inl (kI, 8, .inl q_told)), (ra 3, .inl (kI, 24, .inl (upd q_kind (12 + (q_told 4)).toNatClampNeg r18))), (ra 4, .inl (kI, 24, .inl (upd q_salt (12 + (q_told 4)).toNatClampNeg r154))), (ra 5, .inl (kI, 24, .inl q_pace)), (ra 6, .inl (kI, 24, .inl q_mute)), (ra 7, .inl (kI, 24, .inl q_late)), (ra 1, .inl (kS, 4, .inr (.inr (.inr (.inr q_kinds))))), (m0, .inr (11, oX11 ra y156)), (ra 13, .inl (kI, 700, .inl q_tape))] := hDa
          clear hPa hDa
          have hrr165 : RRd tT nN y156 (rtr3 tT nN sS) := hq160
          refine lv_aload_n hx hb dX11_readRouter_88 rfl (lv_at hl 2 rfl) ?_
          refine va_get (D := (dC, dI)) (ci := 11) (v := .ref (ra 5)) (C := RX11) (T := TX11) (N := 61) hx hb hts hin11 hown hK hP 7 rfl rfl 6 (Nat.le_of_ble_eq_true rfl) hw_5 (fun _ h9 => h9) rfl dX11_readRouter_89 ?_
          refine lv_iload_n hx hb dX11_readRouter_92 rfl (lv_at hl 1 rfl) ?_
          refine lv_aload_n hx hb dX11_readRouter_93 rfl (lv_at hl 2 rfl) ?_
          refine lv_iconst (v := 1) hx hb dX11_readRouter_94 ic_1 ?_
          refine lv_bipush (v := 60) hx hb dX11_readRouter_95 bp_60 ?_
          obtain ⟨hPc, hDc, hFc, hJn⟩ := cl_a (wc := [(m0, .inr (11, oX11 ra y156)), (ra 13, .inl (kI, 700, .inl q_tape))]) (wr := [(ra 2, .inl (kI, 8, .inl q_told)), (ra 3, .inl (kI, 24, .inl (upd q_kind (12 + (q_told 4)).toNatClampNeg r18))), (ra 4, .inl (kI, 24, .inl (upd q_salt (12 + (q_told 4)).toNatClampNeg r154))), (ra 5, .inl (kI, 24, .inl q_pace)), (ra 6, .inl (kI, 24, .inl q_mute)), (ra 7, .inl (kI, 24, .inl q_late)), (ra 1, .inl (kS, 4, .inr (.inr (.inr (.inr q_kinds)))))]) hP hD hS hA [7, 8] [0, 1, 2, 3, 4, 5, 6] rfl rfl (by decide +kernel)
          refine va_calli (va_runV (As := [.int 1, .int 60]) (rest := [.int (12 + (q_told 4)), .ref (ra 5)]) ⟨hx, hb, hml, hown, hts⟩ (s11_readNumber_1_60 l dC dI kB kI kJ kZ kC kS H.size m0 ra y156 q_tape tT nN (rtr3 tT nN sS) (hq157) (hq_tape) (hrr165) (hTQ)) (cwV 2 hts gX11_readRouter_X11_readNumber rfl rfl rfl (by decide +kernel) ⟨Nat.le_of_ble_eq_true rfl, Nat.le_of_ble_eq_true rfl⟩) ⟨fun a U g mk q => by obtain ⟨q0, q1, qP, qE, qD⟩ := q; exact ⟨q0, q1, qP, kE_call qE, qD⟩, va_recv hK hP (ci := 11) (q0 := 7) rfl rfl, fun U hU hW => ⟨rfl, by rw [hU], by rw [hU]; exact hPc, kE_warm hW hE, hDc.weaken (fun _ _ _ _ => trivial)⟩⟩ rfl rfl hl.1 rfl (lv_room (Nat.le_of_ble_eq_true rfl)) dX11_readRouter_97 ⟨Nat.le_of_ble_eq_true rfl, Nat.le_of_ble_eq_true rfl⟩) hS (fun q _ h => hFc q h) hFc (fun r166 u t H locs ht hvm w167 hB hz1 hk1 hS => ?_)
          obtain ⟨y168, hq169, hq170, hq171, hq172, hq173, hq174, hq175, hq176, hP1, hD1⟩ := hB
          try dsimp only at w167
          obtain ⟨hPa, hDa⟩ := hJn (w1 := [(m0, .inr (11, oX11 ra y168)), (ra 13, .inl (kI, 700, .inl q_tape))]) hk1 ht hP1 hD1
          clear hP hD hPc hDc hFc hJn hP1 hD1 hk1
          have hP : va_P (dC, dI) vwCl [(ra 2, .inl (kI, 8, .inl q_told)), (ra 3, .inl (kI, 24, .inl (upd q_kind (12 + (q_told 4)).toNatClampNeg r18))), (ra 4, .inl (kI, 24, .inl (upd q_salt (12 + (q_told 4)).toNatClampNeg r154))), (ra 5, .inl (kI, 24, .inl q_pace)), (ra 6, .inl (kI, 24, .inl q_mute)), (ra 7, .inl (kI, 24, .inl q_late)), (ra 1, .inl (kS, 4, .inr (.inr (.inr (.inr q_kinds))))), (m0, .inr (11, oX11 ra y168)), (ra 13, .inl (kI, 700, .inl q_tape))] H := hPa
          have hD : va_D A [(ra 2, .inl (kI, 8, .inl q_told)), (ra 3, .inl (kI, 24, .inl (upd q_kind (12 + (q_told 4)).toNatClampNeg r18))), (ra 4, .inl (kI, 24, .inl (upd q_salt (12 + (q_told 4)).toNatClampNeg r154))), (ra 5, .inl (kI, 24, .inl q_pace)), (ra 6, .inl (kI, 24, .inl q_mute)), (ra 7, .inl (kI, 24, .inl q_late)), (ra 1, .inl (kS, 4, .inr (.inr (.inr (.inr q_kinds))))), (m0, .inr (11, oX11 ra y168)), (ra 13, .inl (kI, 700, .inl q_tape))] := hDa
          clear hPa hDa
          refine W.widen (k := 0) (n := 0) (Nat.le_of_ble_eq_true rfl) (Nat.le_of_ble_eq_true rfl) ?_
          have hv3 := w167.2
          refine va_iast hx hb hK hP hD hS 3 1 rfl rfl (iv_in b17 (by decide) (by decide)) dX11_readRouter_100 (fun H locs hPa hDa hS => ?_)
          clear hP hD
          have hP : va_P (dC, dI) vwCl [(ra 2, .inl (kI, 8, .inl q_told)), (ra 3, .inl (kI, 24, .inl (upd q_kind (12 + (q_told 4)).toNatClampNeg r18))), (ra 4, .inl (kI, 24, .inl (upd q_salt (12 + (q_told 4)).toNatClampNeg r154))), (ra 5, .inl (kI, 24, .inl (upd q_pace (12 + (q_told 4)).toNatClampNeg r166))), (ra 6, .inl (kI, 24, .inl q_mute)), (ra 7, .inl (kI, 24, .inl q_late)), (ra 1, .inl (kS, 4, .inr (.inr (.inr (.inr q_kinds))))), (m0, .inr (11, oX11 ra y168)), (ra 13, .inl (kI, 700, .inl q_tape))] H := hPa
          have hD : va_D A [(ra 2, .inl (kI, 8, .inl q_told)), (ra 3, .inl (kI, 24, .inl (upd q_kind (12 + (q_told 4)).toNatClampNeg r18))), (ra 4, .inl (kI, 24, .inl (upd q_salt (12 + (q_told 4)).toNatClampNeg r154))), (ra 5, .inl (kI, 24, .inl (upd q_pace (12 + (q_told 4)).toNatClampNeg r166))), (ra 6, .inl (kI, 24, .inl q_mute)), (ra 7, .inl (kI, 24, .inl q_late)), (ra 1, .inl (kS, 4, .inr (.inr (.inr (.inr q_kinds))))), (m0, .inr (11, oX11 ra y168)), (ra 13, .inl (kI, 700, .inl q_tape))] := hDa
          clear hPa hDa
          have hrr177 : RRd tT nN y168 (rtr4 tT nN sS) := hq172
          refine lv_aload_n hx hb dX11_readRouter_101 rfl (lv_at hl 2 rfl) ?_
          refine va_get (D := (dC, dI)) (ci := 11) (v := .ref (ra 6)) (C := RX11) (T := TX11) (N := 61) hx hb hts hin11 hown hK hP 7 rfl rfl 7 (Nat.le_of_ble_eq_true rfl) hw_6 (fun _ h9 => h9) rfl dX11_readRouter_102 ?_
          refine lv_iload_n hx hb dX11_readRouter_105 rfl (lv_at hl 1 rfl) ?_
          refine lv_aload_n hx hb dX11_readRouter_106 rfl (lv_at hl 2 rfl) ?_
          refine va_ldcS hx hb hown hKL.2.2.2.2.2.2.2.2.2.2.2.2.2.2.2.2.2.2.2.2.2.1 dX11_readRouter_107 ?_
          obtain ⟨hPc, hDc, hFc, hJn⟩ := cl_a (wc := [(m0, .inr (11, oX11 ra y168)), (ra 13, .inl (kI, 700, .inl q_tape))]) (wr := [(ra 2, .inl (kI, 8, .inl q_told)), (ra 3, .inl (kI, 24, .inl (upd q_kind (12 + (q_told 4)).toNatClampNeg r18))), (ra 4, .inl (kI, 24, .inl (upd q_salt (12 + (q_told 4)).toNatClampNeg r154))), (ra 5, .inl (kI, 24, .inl (upd q_pace (12 + (q_told 4)).toNatClampNeg r166))), (ra 6, .inl (kI, 24, .inl q_mute)), (ra 7, .inl (kI, 24, .inl q_late)), (ra 1, .inl (kS, 4, .inr (.inr (.inr (.inr q_kinds)))))]) hP hD hS hA [7, 8] [0, 1, 2, 3, 4, 5, 6] rfl rfl (by decide +kernel)
          refine va_calli (va_runV (As := [.ref (adK 8)]) (rest := [.int (12 + (q_told 4)), .ref (ra 6)]) ⟨hx, hb, hml, hown, hts⟩ (s11_is l dC dI kB kI kJ kZ kC kS H.size adK adV m0 ra y168 q_tape 8 tT nN (rtr4 tT nN sS) (hq169) (hq_tape) ((by decide)) (hrr177) (hTQ)) (cwV 1 hts gX11_readRouter_X11_is rfl rfl rfl (by decide +kernel) ⟨Nat.le_of_ble_eq_true rfl, Nat.le_of_ble_eq_true rfl⟩) ⟨fun a U g mk q => by obtain ⟨q0, q1, qP, qE, qD, qL⟩ := q; exact ⟨q0, q1, qP, kE_call qE, qD, kL_call qL⟩, va_recv hK hP (ci := 11) (q0 := 7) rfl rfl, fun U hU hW => ⟨rfl, by rw [hU], by rw [hU]; exact hPc, kE_warm hW hE, hDc.weaken (fun _ _ _ _ => trivial), kL_at hKL hS hFc hW hU⟩⟩ rfl rfl hl.1 rfl (lv_room (Nat.le_of_ble_eq_true rfl)) dX11_readRouter_109 ⟨Nat.le_of_ble_eq_true rfl, Nat.le_of_ble_eq_true rfl⟩) hS (fun q _ h => hFc q h) hFc (fun r178 u t H locs ht hvm w179 hB hz1 hk1 hS => ?_)
          obtain ⟨hP1, hD1⟩ := hB
          try dsimp only at w179
          obtain ⟨hPa, hDa⟩ := hJn (w1 := [(m0, .inr (11, oX11 ra y168)), (ra 13, .inl (kI, 700, .inl q_tape))]) hk1 ht hP1 hD1
          clear hP hD hPc hDc hFc hJn hP1 hD1 hk1
          have hP : va_P (dC, dI) vwCl [(ra 2, .inl (kI, 8, .inl q_told)), (ra 3, .inl (kI, 24, .inl (upd q_kind (12 + (q_told 4)).toNatClampNeg r18))), (ra 4, .inl (kI, 24, .inl (upd q_salt (12 + (q_told 4)).toNatClampNeg r154))), (ra 5, .inl (kI, 24, .inl (upd q_pace (12 + (q_told 4)).toNatClampNeg r166))), (ra 6, .inl (kI, 24, .inl q_mute)), (ra 7, .inl (kI, 24, .inl q_late)), (ra 1, .inl (kS, 4, .inr (.inr (.inr (.inr q_kinds))))), (m0, .inr (11, oX11 ra y168)), (ra 13, .inl (kI, 700, .inl q_tape))] H := hPa
          have hD : va_D A [(ra 2, .inl (kI, 8, .inl q_told)), (ra 3, .inl (kI, 24, .inl (upd q_kind (12 + (q_told 4)).toNatClampNeg r18))), (ra 4, .inl (kI, 24, .inl (upd q_salt (12 + (q_told 4)).toNatClampNeg r154))), (ra 5, .inl (kI, 24, .inl (upd q_pace (12 + (q_told 4)).toNatClampNeg r166))), (ra 6, .inl (kI, 24, .inl q_mute)), (ra 7, .inl (kI, 24, .inl q_late)), (ra 1, .inl (kS, 4, .inr (.inr (.inr (.inr q_kinds))))), (m0, .inr (11, oX11 ra y168)), (ra 13, .inl (kI, 700, .inl q_tape))] := hDa
          clear hPa hDa
          refine W.widen (k := 0) (n := 0) (Nat.le_of_ble_eq_true rfl) (Nat.le_of_ble_eq_true rfl) ?_
          obtain ⟨w179, b180⟩ := w179
          subst w179
          refine lv_if_eq (tgt := 119) hx hb dX11_readRouter_112 rfl (fun c181 => ?_) (fun c181 => ?_)
          · have b182 : iv 0 0 (wS tT 8 (rtr4 tT nN sS)) := iv_eqL c181 ivk_0
            refine lv_iconst (v := 0) hx hb dX11_readRouter_119 ic_0 ?_
            refine va_iast hx hb hK hP hD hS 4 1 rfl rfl (iv_in b17 (by decide) (by decide)) dX11_readRouter_120 (fun H locs hPa hDa hS => ?_)
            clear hP hD
            have hP : va_P (dC, dI) vwCl [(ra 2, .inl (kI, 8, .inl q_told)), (ra 3, .inl (kI, 24, .inl (upd q_kind (12 + (q_told 4)).toNatClampNeg r18))), (ra 4, .inl (kI, 24, .inl (upd q_salt (12 + (q_told 4)).toNatClampNeg r154))), (ra 5, .inl (kI, 24, .inl (upd q_pace (12 + (q_told 4)).toNatClampNeg r166))), (ra 6, .inl (kI, 24, .inl (upd q_mute (12 + (q_told 4)).toNatClampNeg 0))), (ra 7, .inl (kI, 24, .inl q_late)), (ra 1, .inl (kS, 4, .inr (.inr (.inr (.inr q_kinds))))), (m0, .inr (11, oX11 ra y168)), (ra 13, .inl (kI, 700, .inl q_tape))] H := hPa
            have hD : va_D A [(ra 2, .inl (kI, 8, .inl q_told)), (ra 3, .inl (kI, 24, .inl (upd q_kind (12 + (q_told 4)).toNatClampNeg r18))), (ra 4, .inl (kI, 24, .inl (upd q_salt (12 + (q_told 4)).toNatClampNeg r154))), (ra 5, .inl (kI, 24, .inl (upd q_pace (12 + (q_told 4)).toNatClampNeg r166))), (ra 6, .inl (kI, 24, .inl (upd q_mute (12 + (q_told 4)).toNatClampNeg 0))), (ra 7, .inl (kI, 24, .inl q_late)), (ra 1, .inl (kS, 4, .inr (.inr (.inr (.inr q_kinds))))), (m0, .inr (11, oX11 ra y168)), (ra 13, .inl (kI, 700, .inl q_tape))] := hDa
            clear hPa hDa
            refine lv_aload_n hx hb dX11_readRouter_121 rfl (lv_at hl 2 rfl) ?_
            refine va_get (D := (dC, dI)) (ci := 11) (v := .ref (ra 7)) (C := RX11) (T := TX11) (N := 61) hx hb hts hin11 hown hK hP 7 rfl rfl 8 (Nat.le_of_ble_eq_true rfl) hw_7 (fun _ h9 => h9) rfl dX11_readRouter_122 ?_
            refine lv_iload_n hx hb dX11_readRouter_125 rfl (lv_at hl 1 rfl) ?_
            refine lv_aload_n hx hb dX11_readRouter_126 rfl (lv_at hl 2 rfl) ?_
            refine va_ldcS hx hb hown hKL.2.2.2.2.2.2.2.2.2.2.2.2.2.2.2.2.2.2.2.2.2.2 dX11_readRouter_127 ?_
            obtain ⟨hPc, hDc, hFc, hJn⟩ := cl_a (wc := [(m0, .inr (11, oX11 ra y168)), (ra 13, .inl (kI, 700, .inl q_tape))]) (wr := [(ra 2, .inl (kI, 8, .inl q_told)), (ra 3, .inl (kI, 24, .inl (upd q_kind (12 + (q_told 4)).toNatClampNeg r18))), (ra 4, .inl (kI, 24, .inl (upd q_salt (12 + (q_told 4)).toNatClampNeg r154))), (ra 5, .inl (kI, 24, .inl (upd q_pace (12 + (q_told 4)).toNatClampNeg r166))), (ra 6, .inl (kI, 24, .inl (upd q_mute (12 + (q_told 4)).toNatClampNeg 0))), (ra 7, .inl (kI, 24, .inl q_late)), (ra 1, .inl (kS, 4, .inr (.inr (.inr (.inr q_kinds)))))]) hP hD hS hA [7, 8] [0, 1, 2, 3, 4, 5, 6] rfl rfl (by decide +kernel)
            refine va_calli (va_runV (As := [.ref (adK 9)]) (rest := [.int (12 + (q_told 4)), .ref (ra 7)]) ⟨hx, hb, hml, hown, hts⟩ (s11_is l dC dI kB kI kJ kZ kC kS H.size adK adV m0 ra y168 q_tape 9 tT nN (rtr4 tT nN sS) (hq169) (hq_tape) ((by decide)) (hrr177) (hTQ)) (cwV 1 hts gX11_readRouter_X11_is rfl rfl rfl (by decide +kernel) ⟨Nat.le_of_ble_eq_true rfl, Nat.le_of_ble_eq_true rfl⟩) ⟨fun a U g mk q => by obtain ⟨q0, q1, qP, qE, qD, qL⟩ := q; exact ⟨q0, q1, qP, kE_call qE, qD, kL_call qL⟩, va_recv hK hP (ci := 11) (q0 := 7) rfl rfl, fun U hU hW => ⟨rfl, by rw [hU], by rw [hU]; exact hPc, kE_warm hW hE, hDc.weaken (fun _ _ _ _ => trivial), kL_at hKL hS hFc hW hU⟩⟩ rfl rfl hl.1 rfl (lv_room (Nat.le_of_ble_eq_true rfl)) dX11_readRouter_129 ⟨Nat.le_of_ble_eq_true rfl, Nat.le_of_ble_eq_true rfl⟩) hS (fun q _ h => hFc q h) hFc (fun r183 u t H locs ht hvm w184 hB hz1 hk1 hS => ?_)
            obtain ⟨hP1, hD1⟩ := hB
            try dsimp only at w184
            obtain ⟨hPa, hDa⟩ := hJn (w1 := [(m0, .inr (11, oX11 ra y168)), (ra 13, .inl (kI, 700, .inl q_tape))]) hk1 ht hP1 hD1
            clear hP hD hPc hDc hFc hJn hP1 hD1 hk1
            have hP : va_P (dC, dI) vwCl [(ra 2, .inl (kI, 8, .inl q_told)), (ra 3, .inl (kI, 24, .inl (upd q_kind (12 + (q_told 4)).toNatClampNeg r18))), (ra 4, .inl (kI, 24, .inl (upd q_salt (12 + (q_told 4)).toNatClampNeg r154))), (ra 5, .inl (kI, 24, .inl (upd q_pace (12 + (q_told 4)).toNatClampNeg r166))), (ra 6, .inl (kI, 24, .inl (upd q_mute (12 + (q_told 4)).toNatClampNeg 0))), (ra 7, .inl (kI, 24, .inl q_late)), (ra 1, .inl (kS, 4, .inr (.inr (.inr (.inr q_kinds))))), (m0, .inr (11, oX11 ra y168)), (ra 13, .inl (kI, 700, .inl q_tape))] H := hPa
            have hD : va_D A [(ra 2, .inl (kI, 8, .inl q_told)), (ra 3, .inl (kI, 24, .inl (upd q_kind (12 + (q_told 4)).toNatClampNeg r18))), (ra 4, .inl (kI, 24, .inl (upd q_salt (12 + (q_told 4)).toNatClampNeg r154))), (ra 5, .inl (kI, 24, .inl (upd q_pace (12 + (q_told 4)).toNatClampNeg r166))), (ra 6, .inl (kI, 24, .inl (upd q_mute (12 + (q_told 4)).toNatClampNeg 0))), (ra 7, .inl (kI, 24, .inl q_late)), (ra 1, .inl (kS, 4, .inr (.inr (.inr (.inr q_kinds))))), (m0, .inr (11, oX11 ra y168)), (ra 13, .inl (kI, 700, .inl q_tape))] := hDa
            clear hPa hDa
            refine W.widen (k := 0) (n := 0) (Nat.le_of_ble_eq_true rfl) (Nat.le_of_ble_eq_true rfl) ?_
            obtain ⟨w184, b185⟩ := w184
            subst w184
            refine lv_if_eq (tgt := 139) hx hb dX11_readRouter_132 rfl (fun c186 => ?_) (fun c186 => ?_)
            · have b187 : iv 0 0 (wS tT 9 (rtr4 tT nN sS)) := iv_eqL c186 ivk_0
              refine lv_iconst (v := 0) hx hb dX11_readRouter_139 ic_0 ?_
              refine va_iast hx hb hK hP hD hS 5 1 rfl rfl (iv_in b17 (by decide) (by decide)) dX11_readRouter_140 (fun H locs hPa hDa hS => ?_)
              clear hP hD
              have hP : va_P (dC, dI) vwCl [(ra 2, .inl (kI, 8, .inl q_told)), (ra 3, .inl (kI, 24, .inl (upd q_kind (12 + (q_told 4)).toNatClampNeg r18))), (ra 4, .inl (kI, 24, .inl (upd q_salt (12 + (q_told 4)).toNatClampNeg r154))), (ra 5, .inl (kI, 24, .inl (upd q_pace (12 + (q_told 4)).toNatClampNeg r166))), (ra 6, .inl (kI, 24, .inl (upd q_mute (12 + (q_told 4)).toNatClampNeg 0))), (ra 7, .inl (kI, 24, .inl (upd q_late (12 + (q_told 4)).toNatClampNeg 0))), (ra 1, .inl (kS, 4, .inr (.inr (.inr (.inr q_kinds))))), (m0, .inr (11, oX11 ra y168)), (ra 13, .inl (kI, 700, .inl q_tape))] H := hPa
              have hD : va_D A [(ra 2, .inl (kI, 8, .inl q_told)), (ra 3, .inl (kI, 24, .inl (upd q_kind (12 + (q_told 4)).toNatClampNeg r18))), (ra 4, .inl (kI, 24, .inl (upd q_salt (12 + (q_told 4)).toNatClampNeg r154))), (ra 5, .inl (kI, 24, .inl (upd q_pace (12 + (q_told 4)).toNatClampNeg r166))), (ra 6, .inl (kI, 24, .inl (upd q_mute (12 + (q_told 4)).toNatClampNeg 0))), (ra 7, .inl (kI, 24, .inl (upd q_late (12 + (q_told 4)).toNatClampNeg 0))), (ra 1, .inl (kS, 4, .inr (.inr (.inr (.inr q_kinds))))), (m0, .inr (11, oX11 ra y168)), (ra 13, .inl (kI, 700, .inl q_tape))] := hDa
              clear hPa hDa
              refine lv_aload_n hx hb dX11_readRouter_141 rfl (lv_at hl 2 rfl) ?_
              refine va_get (D := (dC, dI)) (ci := 11) (v := .int (y168 8)) (C := RX11) (T := TX11) (N := 61) hx hb hts hin11 hown hK hP 7 rfl rfl 22 (Nat.le_of_ble_eq_true rfl) hw_1 (fun _ h9 => h9) rfl dX11_readRouter_142 ?_
              refine lv_if_ne (tgt := 168) hx hb dX11_readRouter_145 rfl (fun c188 => ?_) (fun c188 => ?_)
              · have b189 : iv 1 5 (y168 8) := iv_neLo c188 (hq169 8 : iv 0 5 (y168 8)) ivk_0 (by decide) (by decide)
                have hrr190 : RRd tT nN y168 (manT tT nN (rtr4 tT nN sS)) := (mq_b hrr177 c188) ▸ hrr177
                refine lv_aload_n hx hb dX11_readRouter_168 rfl (lv_at hl 2 rfl) ?_
                refine va_get (D := (dC, dI)) (ci := 11) (v := .ref (ra 2)) (C := RX11) (T := TX11) (N := 61) hx hb hts hin11 hown hK hP 7 rfl rfl 3 (Nat.le_of_ble_eq_true rfl) hw_0 (fun _ h9 => h9) rfl dX11_readRouter_169 ?_
                refine lv_iconst (v := 4) hx hb dX11_readRouter_172 ic_4 ?_
                refine lv_dup2_11 hx hb dX11_readRouter_173 rfl rfl ?_
                refine va_iald hx hb hK hP 0 1 rfl rfl (vp_in_nI (n := 4) (by decide) (by decide)) dX11_readRouter_174 ?_
                refine W.eq (g2 := F0 m 175 ls [.int (q_told 4), .int 4, .ref (ra 2)]) rfl ?_
                refine lv_iconst (v := 1) hx hb dX11_readRouter_175 ic_1 ?_
                refine lv_iadd hx hb dX11_readRouter_176 ?_
                have b191 : iv 1 12 ((q_told 4) + 1) := iv_add b2 ivk_1 (by decide) (by decide) (by decide) (by decide)
                refine va_iast hx hb hK hP hD hS 0 1 rfl rfl (vp_in_nI (n := 4) (by decide) (by decide)) dX11_readRouter_177 (fun H locs hPa hDa hS => ?_)
                clear hP hD
                have hP : va_P (dC, dI) vwCl [(ra 2, .inl (kI, 8, .inl (upd q_told 4 ((q_told 4) + 1)))), (ra 3, .inl (kI, 24, .inl (upd q_kind (12 + (q_told 4)).toNatClampNeg r18))), (ra 4, .inl (kI, 24, .inl (upd q_salt (12 + (q_told 4)).toNatClampNeg r154))), (ra 5, .inl (kI, 24, .inl (upd q_pace (12 + (q_told 4)).toNatClampNeg r166))), (ra 6, .inl (kI, 24, .inl (upd q_mute (12 + (q_told 4)).toNatClampNeg 0))), (ra 7, .inl (kI, 24, .inl (upd q_late (12 + (q_told 4)).toNatClampNeg 0))), (ra 1, .inl (kS, 4, .inr (.inr (.inr (.inr q_kinds))))), (m0, .inr (11, oX11 ra y168)), (ra 13, .inl (kI, 700, .inl q_tape))] H := hPa
                have hD : va_D A [(ra 2, .inl (kI, 8, .inl (upd q_told 4 ((q_told 4) + 1)))), (ra 3, .inl (kI, 24, .inl (upd q_kind (12 + (q_told 4)).toNatClampNeg r18))), (ra 4, .inl (kI, 24, .inl (upd q_salt (12 + (q_told 4)).toNatClampNeg r154))), (ra 5, .inl (kI, 24, .inl (upd q_pace (12 + (q_told 4)).toNatClampNeg r166))), (ra 6, .inl (kI, 24, .inl (upd q_mute (12 + (q_told 4)).toNatClampNeg 0))), (ra 7, .inl (kI, 24, .inl (upd q_late (12 + (q_told 4)).toNatClampNeg 0))), (ra 1, .inl (kS, 4, .inr (.inr (.inr (.inr q_kinds))))), (m0, .inr (11, oX11 ra y168)), (ra 13, .inl (kI, 700, .inl q_tape))] := hDa
                clear hPa hDa
                have hPD9 := cl_s (wc := [(m0, .inr (11, oX11 ra y168)), (ra 2, .inl (kI, 8, .inl (upd q_told 4 ((q_told 4) + 1)))), (ra 3, .inl (kI, 24, .inl (upd q_kind (12 + (q_told 4)).toNatClampNeg r18))), (ra 4, .inl (kI, 24, .inl (upd q_salt (12 + (q_told 4)).toNatClampNeg r154))), (ra 5, .inl (kI, 24, .inl (upd q_pace (12 + (q_told 4)).toNatClampNeg r166))), (ra 6, .inl (kI, 24, .inl (upd q_mute (12 + (q_told 4)).toNatClampNeg 0))), (ra 7, .inl (kI, 24, .inl (upd q_late (12 + (q_told 4)).toNatClampNeg 0))), (ra 13, .inl (kI, 700, .inl q_tape)), (ra 1, .inl (kS, 4, .inr (.inr (.inr (.inr q_kinds)))))]) hP hD [7, 0, 1, 2, 3, 4, 5, 8, 6] rfl (by decide +kernel)
                have hP9 := hPD9.1
                have hD9 := hPD9.2
                exact W.vret hx hb hr (fun t ht hW => ⟨⟨(), rfl, trivial, y168, upd q_told 4 ((q_told 4) + 1), upd q_kind (12 + (q_told 4)).toNatClampNeg r18, upd q_salt (12 + (q_told 4)).toNatClampNeg r154, upd q_pace (12 + (q_told 4)).toNatClampNeg r166, upd q_mute (12 + (q_told 4)).toNatClampNeg 0, upd q_late (12 + (q_told 4)).toNatClampNeg 0, hq169, (fI_u hq_told (k := 4) ((iv_w b191 (by decide) (by decide)))), (fI_u hq_salt (k := (12 + (q_told 4)).toNatClampNeg) (w155.1)), (show (x0 2).toInt ≤ (y168 2).toInt from by omega), (show y168 3 = x0 3 from hq171.trans (hq159.trans (hq146.trans (hq10)))), (show ∀ j : Nat, (j : Int) < (q_told 1).toInt → (q_from j).toInt < (q_to j).toInt from hLT), (show ∀ j : Nat, (j : Int) < (q_told 5).toInt → (q_from (20 + j)).toInt < (q_to (20 + j)).toInt from hLD), (show RRd tT nN y168 (rtrS tT nN sS (q_told 4)) from it_f (Q := RRd tT nN y168) c1 (hrr190)), fun w => absurd w c188, low_t (by decide), lw12_u (iv_w b2 (by decide) (by decide)), lw12_u (iv_w b2 (by decide) (by decide)), (show y168 1 = x0 1 from hq173.trans (hq161.trans (hq149.trans (hq13)))), (show y168 10 = x0 10 from hq174.trans (hq162.trans (hq150.trans (hq14)))), (show y168 11 = x0 11 from hq175.trans (hq163.trans (hq151.trans (hq15)))), (show y168 14 = x0 14 from hq176.trans (hq164.trans (hq152.trans (hq16)))), by rw [ht]; exact hP9, hD9⟩, hS.F ht⟩) hS.2.2 dX11_readRouter_178
              · have b192 : iv 0 0 (y168 8) := iv_eqL c188 ivk_0
                refine lv_aload_n hx hb dX11_readRouter_148 rfl (lv_at hl 2 rfl) ?_
                refine va_get (D := (dC, dI)) (ci := 11) (v := .ref (ra 6)) (C := RX11) (T := TX11) (N := 61) hx hb hts hin11 hown hK hP 7 rfl rfl 7 (Nat.le_of_ble_eq_true rfl) hw_6 (fun _ h9 => h9) rfl dX11_readRouter_149 ?_
                refine lv_iload_n hx hb dX11_readRouter_152 rfl (lv_at hl 1 rfl) ?_
                refine va_iald hx hb hK hP 4 1 rfl rfl (iv_in b17 (by decide) (by decide)) dX11_readRouter_153 ?_
                refine W.eq (g2 := F0 m 154 ls [.int 0]) (by rw [upd_eq]) ?_
                refine lv_aload_n hx hb dX11_readRouter_154 rfl (lv_at hl 2 rfl) ?_
                refine va_get (D := (dC, dI)) (ci := 11) (v := .ref (ra 7)) (C := RX11) (T := TX11) (N := 61) hx hb hts hin11 hown hK hP 7 rfl rfl 8 (Nat.le_of_ble_eq_true rfl) hw_7 (fun _ h9 => h9) rfl dX11_readRouter_155 ?_
                refine lv_iload_n hx hb dX11_readRouter_158 rfl (lv_at hl 1 rfl) ?_
                refine va_iald hx hb hK hP 5 1 rfl rfl (iv_in b17 (by decide) (by decide)) dX11_readRouter_159 ?_
                refine W.eq (g2 := F0 m 160 ls [.int 0, .int 0]) (by rw [upd_eq]) ?_
                refine lv_iadd hx hb dX11_readRouter_160 ?_
                refine lv_topi (fun z193 e194 => ?_)
                obtain rfl : z193 = (0 : Int32) := e194.trans (by decide)
                refine lv_if_le (tgt := 168) hx hb dX11_readRouter_161 rfl (fun _ => ?_) (fun c9 => absurd (by decide) c9)
                have hrr195 : RRd tT nN y168 (manT tT nN (rtr4 tT nN sS)) := (mq_0 hrr177 c188 c181 c186) ▸ hrr177
                refine lv_aload_n hx hb dX11_readRouter_168 rfl (lv_at hl 2 rfl) ?_
                refine va_get (D := (dC, dI)) (ci := 11) (v := .ref (ra 2)) (C := RX11) (T := TX11) (N := 61) hx hb hts hin11 hown hK hP 7 rfl rfl 3 (Nat.le_of_ble_eq_true rfl) hw_0 (fun _ h9 => h9) rfl dX11_readRouter_169 ?_
                refine lv_iconst (v := 4) hx hb dX11_readRouter_172 ic_4 ?_
                refine lv_dup2_11 hx hb dX11_readRouter_173 rfl rfl ?_
                refine va_iald hx hb hK hP 0 1 rfl rfl (vp_in_nI (n := 4) (by decide) (by decide)) dX11_readRouter_174 ?_
                refine W.eq (g2 := F0 m 175 ls [.int (q_told 4), .int 4, .ref (ra 2)]) rfl ?_
                refine lv_iconst (v := 1) hx hb dX11_readRouter_175 ic_1 ?_
                refine lv_iadd hx hb dX11_readRouter_176 ?_
                have b196 : iv 1 12 ((q_told 4) + 1) := iv_add b2 ivk_1 (by decide) (by decide) (by decide) (by decide)
                refine va_iast hx hb hK hP hD hS 0 1 rfl rfl (vp_in_nI (n := 4) (by decide) (by decide)) dX11_readRouter_177 (fun H locs hPa hDa hS => ?_)
                clear hP hD
                have hP : va_P (dC, dI) vwCl [(ra 2, .inl (kI, 8, .inl (upd q_told 4 ((q_told 4) + 1)))), (ra 3, .inl (kI, 24, .inl (upd q_kind (12 + (q_told 4)).toNatClampNeg r18))), (ra 4, .inl (kI, 24, .inl (upd q_salt (12 + (q_told 4)).toNatClampNeg r154))), (ra 5, .inl (kI, 24, .inl (upd q_pace (12 + (q_told 4)).toNatClampNeg r166))), (ra 6, .inl (kI, 24, .inl (upd q_mute (12 + (q_told 4)).toNatClampNeg 0))), (ra 7, .inl (kI, 24, .inl (upd q_late (12 + (q_told 4)).toNatClampNeg 0))), (ra 1, .inl (kS, 4, .inr (.inr (.inr (.inr q_kinds))))), (m0, .inr (11, oX11 ra y168)), (ra 13, .inl (kI, 700, .inl q_tape))] H := hPa
                have hD : va_D A [(ra 2, .inl (kI, 8, .inl (upd q_told 4 ((q_told 4) + 1)))), (ra 3, .inl (kI, 24, .inl (upd q_kind (12 + (q_told 4)).toNatClampNeg r18))), (ra 4, .inl (kI, 24, .inl (upd q_salt (12 + (q_told 4)).toNatClampNeg r154))), (ra 5, .inl (kI, 24, .inl (upd q_pace (12 + (q_told 4)).toNatClampNeg r166))), (ra 6, .inl (kI, 24, .inl (upd q_mute (12 + (q_told 4)).toNatClampNeg 0))), (ra 7, .inl (kI, 24, .inl (upd q_late (12 + (q_told 4)).toNatClampNeg 0))), (ra 1, .inl (kS, 4, .inr (.inr (.inr (.inr q_kinds))))), (m0, .inr (11, oX11 ra y168)), (ra 13, .inl (kI, 700, .inl q_tape))] := hDa
                clear hPa hDa
                have hPD9 := cl_s (wc := [(m0, .inr (11, oX11 ra y168)), (ra 2, .inl (kI, 8, .inl (upd q_told 4 ((q_told 4) + 1)))), (ra 3, .inl (kI, 24, .inl (upd q_kind (12 + (q_told 4)).toNatClampNeg r18))), (ra 4, .inl (kI, 24, .inl (upd q_salt (12 + (q_told 4)).toNatClampNeg r154))), (ra 5, .inl (kI, 24, .inl (upd q_pace (12 + (q_told 4)).toNatClampNeg r166))), (ra 6, .inl (kI, 24, .inl (upd q_mute (12 + (q_told 4)).toNatClampNeg 0))), (ra 7, .inl (kI, 24, .inl (upd q_late (12 + (q_told 4)).toNatClampNeg 0))), (ra 13, .inl (kI, 700, .inl q_tape)), (ra 1, .inl (kS, 4, .inr (.inr (.inr (.inr q_kinds)))))]) hP hD [7, 0, 1, 2, 3, 4, 5, 8, 6] rfl (by decide +kernel)
                have hP9 := hPD9.1
                have hD9 := hPD9.2
                exact W.vret hx hb hr (fun t ht hW => ⟨⟨(), rfl, trivial, y168, upd q_told 4 ((q_told 4) + 1), upd q_kind (12 + (q_told 4)).toNatClampNeg r18, upd q_salt (12 + (q_told 4)).toNatClampNeg r154, upd q_pace (12 + (q_told 4)).toNatClampNeg r166, upd q_mute (12 + (q_told 4)).toNatClampNeg 0, upd q_late (12 + (q_told 4)).toNatClampNeg 0, hq169, (fI_u hq_told (k := 4) ((iv_w b196 (by decide) (by decide)))), (fI_u hq_salt (k := (12 + (q_told 4)).toNatClampNeg) (w155.1)), (show (x0 2).toInt ≤ (y168 2).toInt from by omega), (show y168 3 = x0 3 from hq171.trans (hq159.trans (hq146.trans (hq10)))), (show ∀ j : Nat, (j : Int) < (q_told 1).toInt → (q_from j).toInt < (q_to j).toInt from hLT), (show ∀ j : Nat, (j : Int) < (q_told 5).toInt → (q_from (20 + j)).toInt < (q_to (20 + j)).toInt from hLD), (show RRd tT nN y168 (rtrS tT nN sS (q_told 4)) from it_f (Q := RRd tT nN y168) c1 (hrr195)), fun _ => ⟨rfl, congrArg (upd q_kind ((12 + (q_told 4)).toNatClampNeg)) ((kq_y hwk c20).2 (ok_next (ok_num (ok_next (ok_num (ok_next (rr_ok hrr177 c188))))))), congrArg (upd q_salt ((12 + (q_told 4)).toNatClampNeg)) (hv2 (ok_next (ok_num (ok_next (rr_ok hrr177 c188))))), congrArg (upd q_pace ((12 + (q_told 4)).toNatClampNeg)) (hv3 (ok_next (rr_ok hrr177 c188))), congrArg (upd q_mute ((12 + (q_told 4)).toNatClampNeg)) c181.symm, congrArg (upd q_late ((12 + (q_told 4)).toNatClampNeg)) c186.symm⟩, low_t (by decide), lw12_u (iv_w b2 (by decide) (by decide)), lw12_u (iv_w b2 (by decide) (by decide)), (show y168 1 = x0 1 from hq173.trans (hq161.trans (hq149.trans (hq13)))), (show y168 10 = x0 10 from hq174.trans (hq162.trans (hq150.trans (hq14)))), (show y168 11 = x0 11 from hq175.trans (hq163.trans (hq151.trans (hq15)))), (show y168 14 = x0 14 from hq176.trans (hq164.trans (hq152.trans (hq16)))), by rw [ht]; exact hP9, hD9⟩, hS.F ht⟩) hS.2.2 dX11_readRouter_178
            · have b197 : iv 1 1 (wS tT 9 (rtr4 tT nN sS)) := iv_neLo c186 b185 ivk_0 (by decide) (by decide)
              refine lv_iconst (v := 1) hx hb dX11_readRouter_135 ic_1 ?_
              refine lv_goto (tgt := 140) hx hb dX11_readRouter_136 rfl ?_
              refine va_iast hx hb hK hP hD hS 5 1 rfl rfl (iv_in b17 (by decide) (by decide)) dX11_readRouter_140 (fun H locs hPa hDa hS => ?_)
              clear hP hD
              have hP : va_P (dC, dI) vwCl [(ra 2, .inl (kI, 8, .inl q_told)), (ra 3, .inl (kI, 24, .inl (upd q_kind (12 + (q_told 4)).toNatClampNeg r18))), (ra 4, .inl (kI, 24, .inl (upd q_salt (12 + (q_told 4)).toNatClampNeg r154))), (ra 5, .inl (kI, 24, .inl (upd q_pace (12 + (q_told 4)).toNatClampNeg r166))), (ra 6, .inl (kI, 24, .inl (upd q_mute (12 + (q_told 4)).toNatClampNeg 0))), (ra 7, .inl (kI, 24, .inl (upd q_late (12 + (q_told 4)).toNatClampNeg 1))), (ra 1, .inl (kS, 4, .inr (.inr (.inr (.inr q_kinds))))), (m0, .inr (11, oX11 ra y168)), (ra 13, .inl (kI, 700, .inl q_tape))] H := hPa
              have hD : va_D A [(ra 2, .inl (kI, 8, .inl q_told)), (ra 3, .inl (kI, 24, .inl (upd q_kind (12 + (q_told 4)).toNatClampNeg r18))), (ra 4, .inl (kI, 24, .inl (upd q_salt (12 + (q_told 4)).toNatClampNeg r154))), (ra 5, .inl (kI, 24, .inl (upd q_pace (12 + (q_told 4)).toNatClampNeg r166))), (ra 6, .inl (kI, 24, .inl (upd q_mute (12 + (q_told 4)).toNatClampNeg 0))), (ra 7, .inl (kI, 24, .inl (upd q_late (12 + (q_told 4)).toNatClampNeg 1))), (ra 1, .inl (kS, 4, .inr (.inr (.inr (.inr q_kinds))))), (m0, .inr (11, oX11 ra y168)), (ra 13, .inl (kI, 700, .inl q_tape))] := hDa
              clear hPa hDa
              refine lv_aload_n hx hb dX11_readRouter_141 rfl (lv_at hl 2 rfl) ?_
              refine va_get (D := (dC, dI)) (ci := 11) (v := .int (y168 8)) (C := RX11) (T := TX11) (N := 61) hx hb hts hin11 hown hK hP 7 rfl rfl 22 (Nat.le_of_ble_eq_true rfl) hw_1 (fun _ h9 => h9) rfl dX11_readRouter_142 ?_
              refine lv_if_ne (tgt := 168) hx hb dX11_readRouter_145 rfl (fun c198 => ?_) (fun c198 => ?_)
              · have b199 : iv 1 5 (y168 8) := iv_neLo c198 (hq169 8 : iv 0 5 (y168 8)) ivk_0 (by decide) (by decide)
                have hrr200 : RRd tT nN y168 (manT tT nN (rtr4 tT nN sS)) := (mq_b hrr177 c198) ▸ hrr177
                refine lv_aload_n hx hb dX11_readRouter_168 rfl (lv_at hl 2 rfl) ?_
                refine va_get (D := (dC, dI)) (ci := 11) (v := .ref (ra 2)) (C := RX11) (T := TX11) (N := 61) hx hb hts hin11 hown hK hP 7 rfl rfl 3 (Nat.le_of_ble_eq_true rfl) hw_0 (fun _ h9 => h9) rfl dX11_readRouter_169 ?_
                refine lv_iconst (v := 4) hx hb dX11_readRouter_172 ic_4 ?_
                refine lv_dup2_11 hx hb dX11_readRouter_173 rfl rfl ?_
                refine va_iald hx hb hK hP 0 1 rfl rfl (vp_in_nI (n := 4) (by decide) (by decide)) dX11_readRouter_174 ?_
                refine W.eq (g2 := F0 m 175 ls [.int (q_told 4), .int 4, .ref (ra 2)]) rfl ?_
                refine lv_iconst (v := 1) hx hb dX11_readRouter_175 ic_1 ?_
                refine lv_iadd hx hb dX11_readRouter_176 ?_
                have b201 : iv 1 12 ((q_told 4) + 1) := iv_add b2 ivk_1 (by decide) (by decide) (by decide) (by decide)
                refine va_iast hx hb hK hP hD hS 0 1 rfl rfl (vp_in_nI (n := 4) (by decide) (by decide)) dX11_readRouter_177 (fun H locs hPa hDa hS => ?_)
                clear hP hD
                have hP : va_P (dC, dI) vwCl [(ra 2, .inl (kI, 8, .inl (upd q_told 4 ((q_told 4) + 1)))), (ra 3, .inl (kI, 24, .inl (upd q_kind (12 + (q_told 4)).toNatClampNeg r18))), (ra 4, .inl (kI, 24, .inl (upd q_salt (12 + (q_told 4)).toNatClampNeg r154))), (ra 5, .inl (kI, 24, .inl (upd q_pace (12 + (q_told 4)).toNatClampNeg r166))), (ra 6, .inl (kI, 24, .inl (upd q_mute (12 + (q_told 4)).toNatClampNeg 0))), (ra 7, .inl (kI, 24, .inl (upd q_late (12 + (q_told 4)).toNatClampNeg 1))), (ra 1, .inl (kS, 4, .inr (.inr (.inr (.inr q_kinds))))), (m0, .inr (11, oX11 ra y168)), (ra 13, .inl (kI, 700, .inl q_tape))] H := hPa
                have hD : va_D A [(ra 2, .inl (kI, 8, .inl (upd q_told 4 ((q_told 4) + 1)))), (ra 3, .inl (kI, 24, .inl (upd q_kind (12 + (q_told 4)).toNatClampNeg r18))), (ra 4, .inl (kI, 24, .inl (upd q_salt (12 + (q_told 4)).toNatClampNeg r154))), (ra 5, .inl (kI, 24, .inl (upd q_pace (12 + (q_told 4)).toNatClampNeg r166))), (ra 6, .inl (kI, 24, .inl (upd q_mute (12 + (q_told 4)).toNatClampNeg 0))), (ra 7, .inl (kI, 24, .inl (upd q_late (12 + (q_told 4)).toNatClampNeg 1))), (ra 1, .inl (kS, 4, .inr (.inr (.inr (.inr q_kinds))))), (m0, .inr (11, oX11 ra y168)), (ra 13, .inl (kI, 700, .inl q_tape))] := hDa
                clear hPa hDa
                have hPD9 := cl_s (wc := [(m0, .inr (11, oX11 ra y168)), (ra 2, .inl (kI, 8, .inl (upd q_told 4 ((q_told 4) + 1)))), (ra 3, .inl (kI, 24, .inl (upd q_kind (12 + (q_told 4)).toNatClampNeg r18))), (ra 4, .inl (kI, 24, .inl (upd q_salt (12 + (q_told 4)).toNatClampNeg r154))), (ra 5, .inl (kI, 24, .inl (upd q_pace (12 + (q_told 4)).toNatClampNeg r166))), (ra 6, .inl (kI, 24, .inl (upd q_mute (12 + (q_told 4)).toNatClampNeg 0))), (ra 7, .inl (kI, 24, .inl (upd q_late (12 + (q_told 4)).toNatClampNeg 1))), (ra 13, .inl (kI, 700, .inl q_tape)), (ra 1, .inl (kS, 4, .inr (.inr (.inr (.inr q_kinds)))))]) hP hD [7, 0, 1, 2, 3, 4, 5, 8, 6] rfl (by decide +kernel)
                have hP9 := hPD9.1
                have hD9 := hPD9.2
                exact W.vret hx hb hr (fun t ht hW => ⟨⟨(), rfl, trivial, y168, upd q_told 4 ((q_told 4) + 1), upd q_kind (12 + (q_told 4)).toNatClampNeg r18, upd q_salt (12 + (q_told 4)).toNatClampNeg r154, upd q_pace (12 + (q_told 4)).toNatClampNeg r166, upd q_mute (12 + (q_told 4)).toNatClampNeg 0, upd q_late (12 + (q_told 4)).toNatClampNeg 1, hq169, (fI_u hq_told (k := 4) ((iv_w b201 (by decide) (by decide)))), (fI_u hq_salt (k := (12 + (q_told 4)).toNatClampNeg) (w155.1)), (show (x0 2).toInt ≤ (y168 2).toInt from by omega), (show y168 3 = x0 3 from hq171.trans (hq159.trans (hq146.trans (hq10)))), (show ∀ j : Nat, (j : Int) < (q_told 1).toInt → (q_from j).toInt < (q_to j).toInt from hLT), (show ∀ j : Nat, (j : Int) < (q_told 5).toInt → (q_from (20 + j)).toInt < (q_to (20 + j)).toInt from hLD), (show RRd tT nN y168 (rtrS tT nN sS (q_told 4)) from it_f (Q := RRd tT nN y168) c1 (hrr200)), fun w => absurd w c198, low_t (by decide), lw12_u (iv_w b2 (by decide) (by decide)), lw12_u (iv_w b2 (by decide) (by decide)), (show y168 1 = x0 1 from hq173.trans (hq161.trans (hq149.trans (hq13)))), (show y168 10 = x0 10 from hq174.trans (hq162.trans (hq150.trans (hq14)))), (show y168 11 = x0 11 from hq175.trans (hq163.trans (hq151.trans (hq15)))), (show y168 14 = x0 14 from hq176.trans (hq164.trans (hq152.trans (hq16)))), by rw [ht]; exact hP9, hD9⟩, hS.F ht⟩) hS.2.2 dX11_readRouter_178
              · have b202 : iv 0 0 (y168 8) := iv_eqL c198 ivk_0
                refine lv_aload_n hx hb dX11_readRouter_148 rfl (lv_at hl 2 rfl) ?_
                refine va_get (D := (dC, dI)) (ci := 11) (v := .ref (ra 6)) (C := RX11) (T := TX11) (N := 61) hx hb hts hin11 hown hK hP 7 rfl rfl 7 (Nat.le_of_ble_eq_true rfl) hw_6 (fun _ h9 => h9) rfl dX11_readRouter_149 ?_
                refine lv_iload_n hx hb dX11_readRouter_152 rfl (lv_at hl 1 rfl) ?_
                refine va_iald hx hb hK hP 4 1 rfl rfl (iv_in b17 (by decide) (by decide)) dX11_readRouter_153 ?_
                refine W.eq (g2 := F0 m 154 ls [.int 0]) (by rw [upd_eq]) ?_
                refine lv_aload_n hx hb dX11_readRouter_154 rfl (lv_at hl 2 rfl) ?_
                refine va_get (D := (dC, dI)) (ci := 11) (v := .ref (ra 7)) (C := RX11) (T := TX11) (N := 61) hx hb hts hin11 hown hK hP 7 rfl rfl 8 (Nat.le_of_ble_eq_true rfl) hw_7 (fun _ h9 => h9) rfl dX11_readRouter_155 ?_
                refine lv_iload_n hx hb dX11_readRouter_158 rfl (lv_at hl 1 rfl) ?_
                refine va_iald hx hb hK hP 5 1 rfl rfl (iv_in b17 (by decide) (by decide)) dX11_readRouter_159 ?_
                refine W.eq (g2 := F0 m 160 ls [.int 1, .int 0]) (by rw [upd_eq]) ?_
                refine lv_iadd hx hb dX11_readRouter_160 ?_
                refine lv_topi (fun z203 e204 => ?_)
                obtain rfl : z203 = (1 : Int32) := e204.trans (by decide)
                refine lv_if_le (tgt := 168) hx hb dX11_readRouter_161 rfl (fun c9 => absurd c9 (by decide)) (fun _ => ?_)
                refine lv_aload_n hx hb dX11_readRouter_164 rfl (lv_at hl 2 rfl) ?_
                obtain ⟨hPc, hDc, hFc, hJn⟩ := cl_a (wc := [(m0, .inr (11, oX11 ra y168)), (ra 13, .inl (kI, 700, .inl q_tape))]) (wr := [(ra 2, .inl (kI, 8, .inl q_told)), (ra 3, .inl (kI, 24, .inl (upd q_kind (12 + (q_told 4)).toNatClampNeg r18))), (ra 4, .inl (kI, 24, .inl (upd q_salt (12 + (q_told 4)).toNatClampNeg r154))), (ra 5, .inl (kI, 24, .inl (upd q_pace (12 + (q_told 4)).toNatClampNeg r166))), (ra 6, .inl (kI, 24, .inl (upd q_mute (12 + (q_told 4)).toNatClampNeg 0))), (ra 7, .inl (kI, 24, .inl (upd q_late (12 + (q_told 4)).toNatClampNeg 1))), (ra 1, .inl (kS, 4, .inr (.inr (.inr (.inr q_kinds)))))]) hP hD hS hA [7, 8] [0, 1, 2, 3, 4, 5, 6] rfl rfl (by decide +kernel)
                refine va_callv (va_runV (As := []) (rest := []) ⟨hx, hb, hml, hown, hts⟩ (s11_stepOn l dC dI kB kI kJ kZ kC kS H.size m0 ra y168 q_tape tT nN (nextT tT nN (rtr4 tT nN sS)) (hq169) (hq_tape) (hrr177.2) (stp_of hrr177) (hTQ)) (cwV 0 hts gX11_readRouter_X11_stepOn rfl rfl rfl (by decide +kernel) ⟨Nat.le_of_ble_eq_true rfl, Nat.le_of_ble_eq_true rfl⟩) ⟨fun a U g mk q => by obtain ⟨q0, q1, qP, qE, qD⟩ := q; exact ⟨q0, q1, qP, kE_call qE, qD⟩, va_recv hK hP (ci := 11) (q0 := 7) rfl rfl, fun U hU hW => ⟨rfl, by rw [hU], by rw [hU]; exact hPc, kE_warm hW hE, hDc.weaken (fun _ _ _ _ => trivial)⟩⟩ rfl rfl hl.1 rfl (lv_room (Nat.le_of_ble_eq_true rfl)) dX11_readRouter_165 ⟨Nat.le_of_ble_eq_true rfl, Nat.le_of_ble_eq_true rfl⟩) hS (fun q _ h => hFc q h) hFc (fun u t H locs ht hvm w206 hB hz1 hk1 hS => ?_)
                obtain ⟨y207, hq208, hq209, hq210, hq211, hq212, hq213, hq214, hq215, hq216, hP1, hD1⟩ := hB
                try dsimp only at w206
                obtain ⟨hPa, hDa⟩ := hJn (w1 := [(m0, .inr (11, oX11 ra y207)), (ra 13, .inl (kI, 700, .inl q_tape))]) hk1 ht hP1 hD1
                clear hP hD hPc hDc hFc hJn hP1 hD1 hk1
                have hP : va_P (dC, dI) vwCl [(ra 2, .inl (kI, 8, .inl q_told)), (ra 3, .inl (kI, 24, .inl (upd q_kind (12 + (q_told 4)).toNatClampNeg r18))), (ra 4, .inl (kI, 24, .inl (upd q_salt (12 + (q_told 4)).toNatClampNeg r154))), (ra 5, .inl (kI, 24, .inl (upd q_pace (12 + (q_told 4)).toNatClampNeg r166))), (ra 6, .inl (kI, 24, .inl (upd q_mute (12 + (q_told 4)).toNatClampNeg 0))), (ra 7, .inl (kI, 24, .inl (upd q_late (12 + (q_told 4)).toNatClampNeg 1))), (ra 1, .inl (kS, 4, .inr (.inr (.inr (.inr q_kinds))))), (m0, .inr (11, oX11 ra y207)), (ra 13, .inl (kI, 700, .inl q_tape))] H := hPa
                have hD : va_D A [(ra 2, .inl (kI, 8, .inl q_told)), (ra 3, .inl (kI, 24, .inl (upd q_kind (12 + (q_told 4)).toNatClampNeg r18))), (ra 4, .inl (kI, 24, .inl (upd q_salt (12 + (q_told 4)).toNatClampNeg r154))), (ra 5, .inl (kI, 24, .inl (upd q_pace (12 + (q_told 4)).toNatClampNeg r166))), (ra 6, .inl (kI, 24, .inl (upd q_mute (12 + (q_told 4)).toNatClampNeg 0))), (ra 7, .inl (kI, 24, .inl (upd q_late (12 + (q_told 4)).toNatClampNeg 1))), (ra 1, .inl (kS, 4, .inr (.inr (.inr (.inr q_kinds))))), (m0, .inr (11, oX11 ra y207)), (ra 13, .inl (kI, 700, .inl q_tape))] := hDa
                clear hPa hDa
                refine W.widen (k := 0) (n := 0) (Nat.le_of_ble_eq_true rfl) (Nat.le_of_ble_eq_true rfl) ?_
                have hrr217 : RRd tT nN y207 (manT tT nN (rtr4 tT nN sS)) := (mq_s hrr177 c198 (Or.inr c186)) ▸ hq212
                refine lv_aload_n hx hb dX11_readRouter_168 rfl (lv_at hl 2 rfl) ?_
                refine va_get (D := (dC, dI)) (ci := 11) (v := .ref (ra 2)) (C := RX11) (T := TX11) (N := 61) hx hb hts hin11 hown hK hP 7 rfl rfl 3 (Nat.le_of_ble_eq_true rfl) hw_0 (fun _ h9 => h9) rfl dX11_readRouter_169 ?_
                refine lv_iconst (v := 4) hx hb dX11_readRouter_172 ic_4 ?_
                refine lv_dup2_11 hx hb dX11_readRouter_173 rfl rfl ?_
                refine va_iald hx hb hK hP 0 1 rfl rfl (vp_in_nI (n := 4) (by decide) (by decide)) dX11_readRouter_174 ?_
                refine W.eq (g2 := F0 m 175 ls [.int (q_told 4), .int 4, .ref (ra 2)]) rfl ?_
                refine lv_iconst (v := 1) hx hb dX11_readRouter_175 ic_1 ?_
                refine lv_iadd hx hb dX11_readRouter_176 ?_
                have b218 : iv 1 12 ((q_told 4) + 1) := iv_add b2 ivk_1 (by decide) (by decide) (by decide) (by decide)
                refine va_iast hx hb hK hP hD hS 0 1 rfl rfl (vp_in_nI (n := 4) (by decide) (by decide)) dX11_readRouter_177 (fun H locs hPa hDa hS => ?_)
                clear hP hD
                have hP : va_P (dC, dI) vwCl [(ra 2, .inl (kI, 8, .inl (upd q_told 4 ((q_told 4) + 1)))), (ra 3, .inl (kI, 24, .inl (upd q_kind (12 + (q_told 4)).toNatClampNeg r18))), (ra 4, .inl (kI, 24, .inl (upd q_salt (12 + (q_told 4)).toNatClampNeg r154))), (ra 5, .inl (kI, 24, .inl (upd q_pace (12 + (q_told 4)).toNatClampNeg r166))), (ra 6, .inl (kI, 24, .inl (upd q_mute (12 + (q_told 4)).toNatClampNeg 0))), (ra 7, .inl (kI, 24, .inl (upd q_late (12 + (q_told 4)).toNatClampNeg 1))), (ra 1, .inl (kS, 4, .inr (.inr (.inr (.inr q_kinds))))), (m0, .inr (11, oX11 ra y207)), (ra 13, .inl (kI, 700, .inl q_tape))] H := hPa
                have hD : va_D A [(ra 2, .inl (kI, 8, .inl (upd q_told 4 ((q_told 4) + 1)))), (ra 3, .inl (kI, 24, .inl (upd q_kind (12 + (q_told 4)).toNatClampNeg r18))), (ra 4, .inl (kI, 24, .inl (upd q_salt (12 + (q_told 4)).toNatClampNeg r154))), (ra 5, .inl (kI, 24, .inl (upd q_pace (12 + (q_told 4)).toNatClampNeg r166))), (ra 6, .inl (kI, 24, .inl (upd q_mute (12 + (q_told 4)).toNatClampNeg 0))), (ra 7, .inl (kI, 24, .inl (upd q_late (12 + (q_told 4)).toNatClampNeg 1))), (ra 1, .inl (kS, 4, .inr (.inr (.inr (.inr q_kinds))))), (m0, .inr (11, oX11 ra y207)), (ra 13, .inl (kI, 700, .inl q_tape))] := hDa
                clear hPa hDa
                have hPD9 := cl_s (wc := [(m0, .inr (11, oX11 ra y207)), (ra 2, .inl (kI, 8, .inl (upd q_told 4 ((q_told 4) + 1)))), (ra 3, .inl (kI, 24, .inl (upd q_kind (12 + (q_told 4)).toNatClampNeg r18))), (ra 4, .inl (kI, 24, .inl (upd q_salt (12 + (q_told 4)).toNatClampNeg r154))), (ra 5, .inl (kI, 24, .inl (upd q_pace (12 + (q_told 4)).toNatClampNeg r166))), (ra 6, .inl (kI, 24, .inl (upd q_mute (12 + (q_told 4)).toNatClampNeg 0))), (ra 7, .inl (kI, 24, .inl (upd q_late (12 + (q_told 4)).toNatClampNeg 1))), (ra 13, .inl (kI, 700, .inl q_tape)), (ra 1, .inl (kS, 4, .inr (.inr (.inr (.inr q_kinds)))))]) hP hD [7, 0, 1, 2, 3, 4, 5, 8, 6] rfl (by decide +kernel)
                have hP9 := hPD9.1
                have hD9 := hPD9.2
                exact W.vret hx hb hr (fun t ht hW => ⟨⟨(), rfl, trivial, y207, upd q_told 4 ((q_told 4) + 1), upd q_kind (12 + (q_told 4)).toNatClampNeg r18, upd q_salt (12 + (q_told 4)).toNatClampNeg r154, upd q_pace (12 + (q_told 4)).toNatClampNeg r166, upd q_mute (12 + (q_told 4)).toNatClampNeg 0, upd q_late (12 + (q_told 4)).toNatClampNeg 1, hq208, (fI_u hq_told (k := 4) ((iv_w b218 (by decide) (by decide)))), (fI_u hq_salt (k := (12 + (q_told 4)).toNatClampNeg) (w155.1)), (show (x0 2).toInt ≤ (y207 2).toInt from by omega), (show y207 3 = x0 3 from hq210.trans (hq171.trans (hq159.trans (hq146.trans (hq10))))), (show ∀ j : Nat, (j : Int) < (q_told 1).toInt → (q_from j).toInt < (q_to j).toInt from hLT), (show ∀ j : Nat, (j : Int) < (q_told 5).toInt → (q_from (20 + j)).toInt < (q_to (20 + j)).toInt from hLD), (show RRd tT nN y207 (rtrS tT nN sS (q_told 4)) from it_f (Q := RRd tT nN y207) c1 (hrr217)), fun _ => ⟨rfl, congrArg (upd q_kind ((12 + (q_told 4)).toNatClampNeg)) ((kq_y hwk c20).2 (ok_next (ok_num (ok_next (ok_num (ok_next (rr_ok hrr177 c198))))))), congrArg (upd q_salt ((12 + (q_told 4)).toNatClampNeg)) (hv2 (ok_next (ok_num (ok_next (rr_ok hrr177 c198))))), congrArg (upd q_pace ((12 + (q_told 4)).toNatClampNeg)) (hv3 (ok_next (rr_ok hrr177 c198))), congrArg (upd q_mute ((12 + (q_told 4)).toNatClampNeg)) c181.symm, congrArg (upd q_late ((12 + (q_told 4)).toNatClampNeg)) (wS_1 c186)⟩, low_t (by decide), lw12_u (iv_w b2 (by decide) (by decide)), lw12_u (iv_w b2 (by decide) (by decide)), (show y207 1 = x0 1 from hq213.trans (hq173.trans (hq161.trans (hq149.trans (hq13))))), (show y207 10 = x0 10 from hq214.trans (hq174.trans (hq162.trans (hq150.trans (hq14))))), (show y207 11 = x0 11 from hq215.trans (hq175.trans (hq163.trans (hq151.trans (hq15))))), (show y207 14 = x0 14 from hq216.trans (hq176.trans (hq164.trans (hq152.trans (hq16))))), by rw [ht]; exact hP9, hD9⟩, hS.F ht⟩) hS.2.2 dX11_readRouter_178
          · have b219 : iv 1 1 (wS tT 8 (rtr4 tT nN sS)) := iv_neLo c181 b180 ivk_0 (by decide) (by decide)
            refine lv_iconst (v := 1) hx hb dX11_readRouter_115 ic_1 ?_
            refine lv_goto (tgt := 120) hx hb dX11_readRouter_116 rfl ?_
            refine va_iast hx hb hK hP hD hS 4 1 rfl rfl (iv_in b17 (by decide) (by decide)) dX11_readRouter_120 (fun H locs hPa hDa hS => ?_)
            clear hP hD
            have hP : va_P (dC, dI) vwCl [(ra 2, .inl (kI, 8, .inl q_told)), (ra 3, .inl (kI, 24, .inl (upd q_kind (12 + (q_told 4)).toNatClampNeg r18))), (ra 4, .inl (kI, 24, .inl (upd q_salt (12 + (q_told 4)).toNatClampNeg r154))), (ra 5, .inl (kI, 24, .inl (upd q_pace (12 + (q_told 4)).toNatClampNeg r166))), (ra 6, .inl (kI, 24, .inl (upd q_mute (12 + (q_told 4)).toNatClampNeg 1))), (ra 7, .inl (kI, 24, .inl q_late)), (ra 1, .inl (kS, 4, .inr (.inr (.inr (.inr q_kinds))))), (m0, .inr (11, oX11 ra y168)), (ra 13, .inl (kI, 700, .inl q_tape))] H := hPa
            have hD : va_D A [(ra 2, .inl (kI, 8, .inl q_told)), (ra 3, .inl (kI, 24, .inl (upd q_kind (12 + (q_told 4)).toNatClampNeg r18))), (ra 4, .inl (kI, 24, .inl (upd q_salt (12 + (q_told 4)).toNatClampNeg r154))), (ra 5, .inl (kI, 24, .inl (upd q_pace (12 + (q_told 4)).toNatClampNeg r166))), (ra 6, .inl (kI, 24, .inl (upd q_mute (12 + (q_told 4)).toNatClampNeg 1))), (ra 7, .inl (kI, 24, .inl q_late)), (ra 1, .inl (kS, 4, .inr (.inr (.inr (.inr q_kinds))))), (m0, .inr (11, oX11 ra y168)), (ra 13, .inl (kI, 700, .inl q_tape))] := hDa
            clear hPa hDa
            refine lv_aload_n hx hb dX11_readRouter_121 rfl (lv_at hl 2 rfl) ?_
            refine va_get (D := (dC, dI)) (ci := 11) (v := .ref (ra 7)) (C := RX11) (T := TX11) (N := 61) hx hb hts hin11 hown hK hP 7 rfl rfl 8 (Nat.le_of_ble_eq_true rfl) hw_7 (fun _ h9 => h9) rfl dX11_readRouter_122 ?_
            refine lv_iload_n hx hb dX11_readRouter_125 rfl (lv_at hl 1 rfl) ?_
            refine lv_aload_n hx hb dX11_readRouter_126 rfl (lv_at hl 2 rfl) ?_
            refine va_ldcS hx hb hown hKL.2.2.2.2.2.2.2.2.2.2.2.2.2.2.2.2.2.2.2.2.2.2 dX11_readRouter_127 ?_
            obtain ⟨hPc, hDc, hFc, hJn⟩ := cl_a (wc := [(m0, .inr (11, oX11 ra y168)), (ra 13, .inl (kI, 700, .inl q_tape))]) (wr := [(ra 2, .inl (kI, 8, .inl q_told)), (ra 3, .inl (kI, 24, .inl (upd q_kind (12 + (q_told 4)).toNatClampNeg r18))), (ra 4, .inl (kI, 24, .inl (upd q_salt (12 + (q_told 4)).toNatClampNeg r154))), (ra 5, .inl (kI, 24, .inl (upd q_pace (12 + (q_told 4)).toNatClampNeg r166))), (ra 6, .inl (kI, 24, .inl (upd q_mute (12 + (q_told 4)).toNatClampNeg 1))), (ra 7, .inl (kI, 24, .inl q_late)), (ra 1, .inl (kS, 4, .inr (.inr (.inr (.inr q_kinds)))))]) hP hD hS hA [7, 8] [0, 1, 2, 3, 4, 5, 6] rfl rfl (by decide +kernel)
            refine va_calli (va_runV (As := [.ref (adK 9)]) (rest := [.int (12 + (q_told 4)), .ref (ra 7)]) ⟨hx, hb, hml, hown, hts⟩ (s11_is l dC dI kB kI kJ kZ kC kS H.size adK adV m0 ra y168 q_tape 9 tT nN (rtr4 tT nN sS) (hq169) (hq_tape) ((by decide)) (hrr177) (hTQ)) (cwV 1 hts gX11_readRouter_X11_is rfl rfl rfl (by decide +kernel) ⟨Nat.le_of_ble_eq_true rfl, Nat.le_of_ble_eq_true rfl⟩) ⟨fun a U g mk q => by obtain ⟨q0, q1, qP, qE, qD, qL⟩ := q; exact ⟨q0, q1, qP, kE_call qE, qD, kL_call qL⟩, va_recv hK hP (ci := 11) (q0 := 7) rfl rfl, fun U hU hW => ⟨rfl, by rw [hU], by rw [hU]; exact hPc, kE_warm hW hE, hDc.weaken (fun _ _ _ _ => trivial), kL_at hKL hS hFc hW hU⟩⟩ rfl rfl hl.1 rfl (lv_room (Nat.le_of_ble_eq_true rfl)) dX11_readRouter_129 ⟨Nat.le_of_ble_eq_true rfl, Nat.le_of_ble_eq_true rfl⟩) hS (fun q _ h => hFc q h) hFc (fun r220 u t H locs ht hvm w221 hB hz1 hk1 hS => ?_)
            obtain ⟨hP1, hD1⟩ := hB
            try dsimp only at w221
            obtain ⟨hPa, hDa⟩ := hJn (w1 := [(m0, .inr (11, oX11 ra y168)), (ra 13, .inl (kI, 700, .inl q_tape))]) hk1 ht hP1 hD1
            clear hP hD hPc hDc hFc hJn hP1 hD1 hk1
            have hP : va_P (dC, dI) vwCl [(ra 2, .inl (kI, 8, .inl q_told)), (ra 3, .inl (kI, 24, .inl (upd q_kind (12 + (q_told 4)).toNatClampNeg r18))), (ra 4, .inl (kI, 24, .inl (upd q_salt (12 + (q_told 4)).toNatClampNeg r154))), (ra 5, .inl (kI, 24, .inl (upd q_pace (12 + (q_told 4)).toNatClampNeg r166))), (ra 6, .inl (kI, 24, .inl (upd q_mute (12 + (q_told 4)).toNatClampNeg 1))), (ra 7, .inl (kI, 24, .inl q_late)), (ra 1, .inl (kS, 4, .inr (.inr (.inr (.inr q_kinds))))), (m0, .inr (11, oX11 ra y168)), (ra 13, .inl (kI, 700, .inl q_tape))] H := hPa
            have hD : va_D A [(ra 2, .inl (kI, 8, .inl q_told)), (ra 3, .inl (kI, 24, .inl (upd q_kind (12 + (q_told 4)).toNatClampNeg r18))), (ra 4, .inl (kI, 24, .inl (upd q_salt (12 + (q_told 4)).toNatClampNeg r154))), (ra 5, .inl (kI, 24, .inl (upd q_pace (12 + (q_told 4)).toNatClampNeg r166))), (ra 6, .inl (kI, 24, .inl (upd q_mute (12 + (q_told 4)).toNatClampNeg 1))), (ra 7, .inl (kI, 24, .inl q_late)), (ra 1, .inl (kS, 4, .inr (.inr (.inr (.inr q_kinds))))), (m0, .inr (11, oX11 ra y168)), (ra 13, .inl (kI, 700, .inl q_tape))] := hDa
            clear hPa hDa
            refine W.widen (k := 0) (n := 0) (Nat.le_of_ble_eq_true rfl) (Nat.le_of_ble_eq_true rfl) ?_
            obtain ⟨w221, b222⟩ := w221
            subst w221
            refine lv_if_eq (tgt := 139) hx hb dX11_readRouter_132 rfl (fun c223 => ?_) (fun c223 => ?_)
            · have b224 : iv 0 0 (wS tT 9 (rtr4 tT nN sS)) := iv_eqL c223 ivk_0
              refine lv_iconst (v := 0) hx hb dX11_readRouter_139 ic_0 ?_
              refine va_iast hx hb hK hP hD hS 5 1 rfl rfl (iv_in b17 (by decide) (by decide)) dX11_readRouter_140 (fun H locs hPa hDa hS => ?_)
              clear hP hD
              have hP : va_P (dC, dI) vwCl [(ra 2, .inl (kI, 8, .inl q_told)), (ra 3, .inl (kI, 24, .inl (upd q_kind (12 + (q_told 4)).toNatClampNeg r18))), (ra 4, .inl (kI, 24, .inl (upd q_salt (12 + (q_told 4)).toNatClampNeg r154))), (ra 5, .inl (kI, 24, .inl (upd q_pace (12 + (q_told 4)).toNatClampNeg r166))), (ra 6, .inl (kI, 24, .inl (upd q_mute (12 + (q_told 4)).toNatClampNeg 1))), (ra 7, .inl (kI, 24, .inl (upd q_late (12 + (q_told 4)).toNatClampNeg 0))), (ra 1, .inl (kS, 4, .inr (.inr (.inr (.inr q_kinds))))), (m0, .inr (11, oX11 ra y168)), (ra 13, .inl (kI, 700, .inl q_tape))] H := hPa
              have hD : va_D A [(ra 2, .inl (kI, 8, .inl q_told)), (ra 3, .inl (kI, 24, .inl (upd q_kind (12 + (q_told 4)).toNatClampNeg r18))), (ra 4, .inl (kI, 24, .inl (upd q_salt (12 + (q_told 4)).toNatClampNeg r154))), (ra 5, .inl (kI, 24, .inl (upd q_pace (12 + (q_told 4)).toNatClampNeg r166))), (ra 6, .inl (kI, 24, .inl (upd q_mute (12 + (q_told 4)).toNatClampNeg 1))), (ra 7, .inl (kI, 24, .inl (upd q_late (12 + (q_told 4)).toNatClampNeg 0))), (ra 1, .inl (kS, 4, .inr (.inr (.inr (.inr q_kinds))))), (m0, .inr (11, oX11 ra y168)), (ra 13, .inl (kI, 700, .inl q_tape))] := hDa
              clear hPa hDa
              refine lv_aload_n hx hb dX11_readRouter_141 rfl (lv_at hl 2 rfl) ?_
              refine va_get (D := (dC, dI)) (ci := 11) (v := .int (y168 8)) (C := RX11) (T := TX11) (N := 61) hx hb hts hin11 hown hK hP 7 rfl rfl 22 (Nat.le_of_ble_eq_true rfl) hw_1 (fun _ h9 => h9) rfl dX11_readRouter_142 ?_
              refine lv_if_ne (tgt := 168) hx hb dX11_readRouter_145 rfl (fun c225 => ?_) (fun c225 => ?_)
              · have b226 : iv 1 5 (y168 8) := iv_neLo c225 (hq169 8 : iv 0 5 (y168 8)) ivk_0 (by decide) (by decide)
                have hrr227 : RRd tT nN y168 (manT tT nN (rtr4 tT nN sS)) := (mq_b hrr177 c225) ▸ hrr177
                refine lv_aload_n hx hb dX11_readRouter_168 rfl (lv_at hl 2 rfl) ?_
                refine va_get (D := (dC, dI)) (ci := 11) (v := .ref (ra 2)) (C := RX11) (T := TX11) (N := 61) hx hb hts hin11 hown hK hP 7 rfl rfl 3 (Nat.le_of_ble_eq_true rfl) hw_0 (fun _ h9 => h9) rfl dX11_readRouter_169 ?_
                refine lv_iconst (v := 4) hx hb dX11_readRouter_172 ic_4 ?_
                refine lv_dup2_11 hx hb dX11_readRouter_173 rfl rfl ?_
                refine va_iald hx hb hK hP 0 1 rfl rfl (vp_in_nI (n := 4) (by decide) (by decide)) dX11_readRouter_174 ?_
                refine W.eq (g2 := F0 m 175 ls [.int (q_told 4), .int 4, .ref (ra 2)]) rfl ?_
                refine lv_iconst (v := 1) hx hb dX11_readRouter_175 ic_1 ?_
                refine lv_iadd hx hb dX11_readRouter_176 ?_
                have b228 : iv 1 12 ((q_told 4) + 1) := iv_add b2 ivk_1 (by decide) (by decide) (by decide) (by decide)
                refine va_iast hx hb hK hP hD hS 0 1 rfl rfl (vp_in_nI (n := 4) (by decide) (by decide)) dX11_readRouter_177 (fun H locs hPa hDa hS => ?_)
                clear hP hD
                have hP : va_P (dC, dI) vwCl [(ra 2, .inl (kI, 8, .inl (upd q_told 4 ((q_told 4) + 1)))), (ra 3, .inl (kI, 24, .inl (upd q_kind (12 + (q_told 4)).toNatClampNeg r18))), (ra 4, .inl (kI, 24, .inl (upd q_salt (12 + (q_told 4)).toNatClampNeg r154))), (ra 5, .inl (kI, 24, .inl (upd q_pace (12 + (q_told 4)).toNatClampNeg r166))), (ra 6, .inl (kI, 24, .inl (upd q_mute (12 + (q_told 4)).toNatClampNeg 1))), (ra 7, .inl (kI, 24, .inl (upd q_late (12 + (q_told 4)).toNatClampNeg 0))), (ra 1, .inl (kS, 4, .inr (.inr (.inr (.inr q_kinds))))), (m0, .inr (11, oX11 ra y168)), (ra 13, .inl (kI, 700, .inl q_tape))] H := hPa
                have hD : va_D A [(ra 2, .inl (kI, 8, .inl (upd q_told 4 ((q_told 4) + 1)))), (ra 3, .inl (kI, 24, .inl (upd q_kind (12 + (q_told 4)).toNatClampNeg r18))), (ra 4, .inl (kI, 24, .inl (upd q_salt (12 + (q_told 4)).toNatClampNeg r154))), (ra 5, .inl (kI, 24, .inl (upd q_pace (12 + (q_told 4)).toNatClampNeg r166))), (ra 6, .inl (kI, 24, .inl (upd q_mute (12 + (q_told 4)).toNatClampNeg 1))), (ra 7, .inl (kI, 24, .inl (upd q_late (12 + (q_told 4)).toNatClampNeg 0))), (ra 1, .inl (kS, 4, .inr (.inr (.inr (.inr q_kinds))))), (m0, .inr (11, oX11 ra y168)), (ra 13, .inl (kI, 700, .inl q_tape))] := hDa
                clear hPa hDa
                have hPD9 := cl_s (wc := [(m0, .inr (11, oX11 ra y168)), (ra 2, .inl (kI, 8, .inl (upd q_told 4 ((q_told 4) + 1)))), (ra 3, .inl (kI, 24, .inl (upd q_kind (12 + (q_told 4)).toNatClampNeg r18))), (ra 4, .inl (kI, 24, .inl (upd q_salt (12 + (q_told 4)).toNatClampNeg r154))), (ra 5, .inl (kI, 24, .inl (upd q_pace (12 + (q_told 4)).toNatClampNeg r166))), (ra 6, .inl (kI, 24, .inl (upd q_mute (12 + (q_told 4)).toNatClampNeg 1))), (ra 7, .inl (kI, 24, .inl (upd q_late (12 + (q_told 4)).toNatClampNeg 0))), (ra 13, .inl (kI, 700, .inl q_tape)), (ra 1, .inl (kS, 4, .inr (.inr (.inr (.inr q_kinds)))))]) hP hD [7, 0, 1, 2, 3, 4, 5, 8, 6] rfl (by decide +kernel)
                have hP9 := hPD9.1
                have hD9 := hPD9.2
                exact W.vret hx hb hr (fun t ht hW => ⟨⟨(), rfl, trivial, y168, upd q_told 4 ((q_told 4) + 1), upd q_kind (12 + (q_told 4)).toNatClampNeg r18, upd q_salt (12 + (q_told 4)).toNatClampNeg r154, upd q_pace (12 + (q_told 4)).toNatClampNeg r166, upd q_mute (12 + (q_told 4)).toNatClampNeg 1, upd q_late (12 + (q_told 4)).toNatClampNeg 0, hq169, (fI_u hq_told (k := 4) ((iv_w b228 (by decide) (by decide)))), (fI_u hq_salt (k := (12 + (q_told 4)).toNatClampNeg) (w155.1)), (show (x0 2).toInt ≤ (y168 2).toInt from by omega), (show y168 3 = x0 3 from hq171.trans (hq159.trans (hq146.trans (hq10)))), (show ∀ j : Nat, (j : Int) < (q_told 1).toInt → (q_from j).toInt < (q_to j).toInt from hLT), (show ∀ j : Nat, (j : Int) < (q_told 5).toInt → (q_from (20 + j)).toInt < (q_to (20 + j)).toInt from hLD), (show RRd tT nN y168 (rtrS tT nN sS (q_told 4)) from it_f (Q := RRd tT nN y168) c1 (hrr227)), fun w => absurd w c225, low_t (by decide), lw12_u (iv_w b2 (by decide) (by decide)), lw12_u (iv_w b2 (by decide) (by decide)), (show y168 1 = x0 1 from hq173.trans (hq161.trans (hq149.trans (hq13)))), (show y168 10 = x0 10 from hq174.trans (hq162.trans (hq150.trans (hq14)))), (show y168 11 = x0 11 from hq175.trans (hq163.trans (hq151.trans (hq15)))), (show y168 14 = x0 14 from hq176.trans (hq164.trans (hq152.trans (hq16)))), by rw [ht]; exact hP9, hD9⟩, hS.F ht⟩) hS.2.2 dX11_readRouter_178
              · have b229 : iv 0 0 (y168 8) := iv_eqL c225 ivk_0
                refine lv_aload_n hx hb dX11_readRouter_148 rfl (lv_at hl 2 rfl) ?_
                refine va_get (D := (dC, dI)) (ci := 11) (v := .ref (ra 6)) (C := RX11) (T := TX11) (N := 61) hx hb hts hin11 hown hK hP 7 rfl rfl 7 (Nat.le_of_ble_eq_true rfl) hw_6 (fun _ h9 => h9) rfl dX11_readRouter_149 ?_
                refine lv_iload_n hx hb dX11_readRouter_152 rfl (lv_at hl 1 rfl) ?_
                refine va_iald hx hb hK hP 4 1 rfl rfl (iv_in b17 (by decide) (by decide)) dX11_readRouter_153 ?_
                refine W.eq (g2 := F0 m 154 ls [.int 1]) (by rw [upd_eq]) ?_
                refine lv_aload_n hx hb dX11_readRouter_154 rfl (lv_at hl 2 rfl) ?_
                refine va_get (D := (dC, dI)) (ci := 11) (v := .ref (ra 7)) (C := RX11) (T := TX11) (N := 61) hx hb hts hin11 hown hK hP 7 rfl rfl 8 (Nat.le_of_ble_eq_true rfl) hw_7 (fun _ h9 => h9) rfl dX11_readRouter_155 ?_
                refine lv_iload_n hx hb dX11_readRouter_158 rfl (lv_at hl 1 rfl) ?_
                refine va_iald hx hb hK hP 5 1 rfl rfl (iv_in b17 (by decide) (by decide)) dX11_readRouter_159 ?_
                refine W.eq (g2 := F0 m 160 ls [.int 0, .int 1]) (by rw [upd_eq]) ?_
                refine lv_iadd hx hb dX11_readRouter_160 ?_
                refine lv_topi (fun z230 e231 => ?_)
                obtain rfl : z230 = (1 : Int32) := e231.trans (by decide)
                refine lv_if_le (tgt := 168) hx hb dX11_readRouter_161 rfl (fun c9 => absurd c9 (by decide)) (fun _ => ?_)
                refine lv_aload_n hx hb dX11_readRouter_164 rfl (lv_at hl 2 rfl) ?_
                obtain ⟨hPc, hDc, hFc, hJn⟩ := cl_a (wc := [(m0, .inr (11, oX11 ra y168)), (ra 13, .inl (kI, 700, .inl q_tape))]) (wr := [(ra 2, .inl (kI, 8, .inl q_told)), (ra 3, .inl (kI, 24, .inl (upd q_kind (12 + (q_told 4)).toNatClampNeg r18))), (ra 4, .inl (kI, 24, .inl (upd q_salt (12 + (q_told 4)).toNatClampNeg r154))), (ra 5, .inl (kI, 24, .inl (upd q_pace (12 + (q_told 4)).toNatClampNeg r166))), (ra 6, .inl (kI, 24, .inl (upd q_mute (12 + (q_told 4)).toNatClampNeg 1))), (ra 7, .inl (kI, 24, .inl (upd q_late (12 + (q_told 4)).toNatClampNeg 0))), (ra 1, .inl (kS, 4, .inr (.inr (.inr (.inr q_kinds)))))]) hP hD hS hA [7, 8] [0, 1, 2, 3, 4, 5, 6] rfl rfl (by decide +kernel)
                refine va_callv (va_runV (As := []) (rest := []) ⟨hx, hb, hml, hown, hts⟩ (s11_stepOn l dC dI kB kI kJ kZ kC kS H.size m0 ra y168 q_tape tT nN (nextT tT nN (rtr4 tT nN sS)) (hq169) (hq_tape) (hrr177.2) (stp_of hrr177) (hTQ)) (cwV 0 hts gX11_readRouter_X11_stepOn rfl rfl rfl (by decide +kernel) ⟨Nat.le_of_ble_eq_true rfl, Nat.le_of_ble_eq_true rfl⟩) ⟨fun a U g mk q => by obtain ⟨q0, q1, qP, qE, qD⟩ := q; exact ⟨q0, q1, qP, kE_call qE, qD⟩, va_recv hK hP (ci := 11) (q0 := 7) rfl rfl, fun U hU hW => ⟨rfl, by rw [hU], by rw [hU]; exact hPc, kE_warm hW hE, hDc.weaken (fun _ _ _ _ => trivial)⟩⟩ rfl rfl hl.1 rfl (lv_room (Nat.le_of_ble_eq_true rfl)) dX11_readRouter_165 ⟨Nat.le_of_ble_eq_true rfl, Nat.le_of_ble_eq_true rfl⟩) hS (fun q _ h => hFc q h) hFc (fun u t H locs ht hvm w233 hB hz1 hk1 hS => ?_)
                obtain ⟨y234, hq235, hq236, hq237, hq238, hq239, hq240, hq241, hq242, hq243, hP1, hD1⟩ := hB
                try dsimp only at w233
                obtain ⟨hPa, hDa⟩ := hJn (w1 := [(m0, .inr (11, oX11 ra y234)), (ra 13, .inl (kI, 700, .inl q_tape))]) hk1 ht hP1 hD1
                clear hP hD hPc hDc hFc hJn hP1 hD1 hk1
                have hP : va_P (dC, dI) vwCl [(ra 2, .inl (kI, 8, .inl q_told)), (ra 3, .inl (kI, 24, .inl (upd q_kind (12 + (q_told 4)).toNatClampNeg r18))), (ra 4, .inl (kI, 24, .inl (upd q_salt (12 + (q_told 4)).toNatClampNeg r154))), (ra 5, .inl (kI, 24, .inl (upd q_pace (12 + (q_told 4)).toNatClampNeg r166))), (ra 6, .inl (kI, 24, .inl (upd q_mute (12 + (q_told 4)).toNatClampNeg 1))), (ra 7, .inl (kI, 24, .inl (upd q_late (12 + (q_told 4)).toNatClampNeg 0))), (ra 1, .inl (kS, 4, .inr (.inr (.inr (.inr q_kinds))))), (m0, .inr (11, oX11 ra y234)), (ra 13, .inl (kI, 700, .inl q_tape))] H := hPa
                have hD : va_D A [(ra 2, .inl (kI, 8, .inl q_told)), (ra 3, .inl (kI, 24, .inl (upd q_kind (12 + (q_told 4)).toNatClampNeg r18))), (ra 4, .inl (kI, 24, .inl (upd q_salt (12 + (q_told 4)).toNatClampNeg r154))), (ra 5, .inl (kI, 24, .inl (upd q_pace (12 + (q_told 4)).toNatClampNeg r166))), (ra 6, .inl (kI, 24, .inl (upd q_mute (12 + (q_told 4)).toNatClampNeg 1))), (ra 7, .inl (kI, 24, .inl (upd q_late (12 + (q_told 4)).toNatClampNeg 0))), (ra 1, .inl (kS, 4, .inr (.inr (.inr (.inr q_kinds))))), (m0, .inr (11, oX11 ra y234)), (ra 13, .inl (kI, 700, .inl q_tape))] := hDa
                clear hPa hDa
                refine W.widen (k := 0) (n := 0) (Nat.le_of_ble_eq_true rfl) (Nat.le_of_ble_eq_true rfl) ?_
                have hrr244 : RRd tT nN y234 (manT tT nN (rtr4 tT nN sS)) := (mq_s hrr177 c225 (Or.inl c181)) ▸ hq239
                refine lv_aload_n hx hb dX11_readRouter_168 rfl (lv_at hl 2 rfl) ?_
                refine va_get (D := (dC, dI)) (ci := 11) (v := .ref (ra 2)) (C := RX11) (T := TX11) (N := 61) hx hb hts hin11 hown hK hP 7 rfl rfl 3 (Nat.le_of_ble_eq_true rfl) hw_0 (fun _ h9 => h9) rfl dX11_readRouter_169 ?_
                refine lv_iconst (v := 4) hx hb dX11_readRouter_172 ic_4 ?_
                refine lv_dup2_11 hx hb dX11_readRouter_173 rfl rfl ?_
                refine va_iald hx hb hK hP 0 1 rfl rfl (vp_in_nI (n := 4) (by decide) (by decide)) dX11_readRouter_174 ?_
                refine W.eq (g2 := F0 m 175 ls [.int (q_told 4), .int 4, .ref (ra 2)]) rfl ?_
                refine lv_iconst (v := 1) hx hb dX11_readRouter_175 ic_1 ?_
                refine lv_iadd hx hb dX11_readRouter_176 ?_
                have b245 : iv 1 12 ((q_told 4) + 1) := iv_add b2 ivk_1 (by decide) (by decide) (by decide) (by decide)
                refine va_iast hx hb hK hP hD hS 0 1 rfl rfl (vp_in_nI (n := 4) (by decide) (by decide)) dX11_readRouter_177 (fun H locs hPa hDa hS => ?_)
                clear hP hD
                have hP : va_P (dC, dI) vwCl [(ra 2, .inl (kI, 8, .inl (upd q_told 4 ((q_told 4) + 1)))), (ra 3, .inl (kI, 24, .inl (upd q_kind (12 + (q_told 4)).toNatClampNeg r18))), (ra 4, .inl (kI, 24, .inl (upd q_salt (12 + (q_told 4)).toNatClampNeg r154))), (ra 5, .inl (kI, 24, .inl (upd q_pace (12 + (q_told 4)).toNatClampNeg r166))), (ra 6, .inl (kI, 24, .inl (upd q_mute (12 + (q_told 4)).toNatClampNeg 1))), (ra 7, .inl (kI, 24, .inl (upd q_late (12 + (q_told 4)).toNatClampNeg 0))), (ra 1, .inl (kS, 4, .inr (.inr (.inr (.inr q_kinds))))), (m0, .inr (11, oX11 ra y234)), (ra 13, .inl (kI, 700, .inl q_tape))] H := hPa
                have hD : va_D A [(ra 2, .inl (kI, 8, .inl (upd q_told 4 ((q_told 4) + 1)))), (ra 3, .inl (kI, 24, .inl (upd q_kind (12 + (q_told 4)).toNatClampNeg r18))), (ra 4, .inl (kI, 24, .inl (upd q_salt (12 + (q_told 4)).toNatClampNeg r154))), (ra 5, .inl (kI, 24, .inl (upd q_pace (12 + (q_told 4)).toNatClampNeg r166))), (ra 6, .inl (kI, 24, .inl (upd q_mute (12 + (q_told 4)).toNatClampNeg 1))), (ra 7, .inl (kI, 24, .inl (upd q_late (12 + (q_told 4)).toNatClampNeg 0))), (ra 1, .inl (kS, 4, .inr (.inr (.inr (.inr q_kinds))))), (m0, .inr (11, oX11 ra y234)), (ra 13, .inl (kI, 700, .inl q_tape))] := hDa
                clear hPa hDa
                have hPD9 := cl_s (wc := [(m0, .inr (11, oX11 ra y234)), (ra 2, .inl (kI, 8, .inl (upd q_told 4 ((q_told 4) + 1)))), (ra 3, .inl (kI, 24, .inl (upd q_kind (12 + (q_told 4)).toNatClampNeg r18))), (ra 4, .inl (kI, 24, .inl (upd q_salt (12 + (q_told 4)).toNatClampNeg r154))), (ra 5, .inl (kI, 24, .inl (upd q_pace (12 + (q_told 4)).toNatClampNeg r166))), (ra 6, .inl (kI, 24, .inl (upd q_mute (12 + (q_told 4)).toNatClampNeg 1))), (ra 7, .inl (kI, 24, .inl (upd q_late (12 + (q_told 4)).toNatClampNeg 0))), (ra 13, .inl (kI, 700, .inl q_tape)), (ra 1, .inl (kS, 4, .inr (.inr (.inr (.inr q_kinds)))))]) hP hD [7, 0, 1, 2, 3, 4, 5, 8, 6] rfl (by decide +kernel)
                have hP9 := hPD9.1
                have hD9 := hPD9.2
                exact W.vret hx hb hr (fun t ht hW => ⟨⟨(), rfl, trivial, y234, upd q_told 4 ((q_told 4) + 1), upd q_kind (12 + (q_told 4)).toNatClampNeg r18, upd q_salt (12 + (q_told 4)).toNatClampNeg r154, upd q_pace (12 + (q_told 4)).toNatClampNeg r166, upd q_mute (12 + (q_told 4)).toNatClampNeg 1, upd q_late (12 + (q_told 4)).toNatClampNeg 0, hq235, (fI_u hq_told (k := 4) ((iv_w b245 (by decide) (by decide)))), (fI_u hq_salt (k := (12 + (q_told 4)).toNatClampNeg) (w155.1)), (show (x0 2).toInt ≤ (y234 2).toInt from by omega), (show y234 3 = x0 3 from hq237.trans (hq171.trans (hq159.trans (hq146.trans (hq10))))), (show ∀ j : Nat, (j : Int) < (q_told 1).toInt → (q_from j).toInt < (q_to j).toInt from hLT), (show ∀ j : Nat, (j : Int) < (q_told 5).toInt → (q_from (20 + j)).toInt < (q_to (20 + j)).toInt from hLD), (show RRd tT nN y234 (rtrS tT nN sS (q_told 4)) from it_f (Q := RRd tT nN y234) c1 (hrr244)), fun _ => ⟨rfl, congrArg (upd q_kind ((12 + (q_told 4)).toNatClampNeg)) ((kq_y hwk c20).2 (ok_next (ok_num (ok_next (ok_num (ok_next (rr_ok hrr177 c225))))))), congrArg (upd q_salt ((12 + (q_told 4)).toNatClampNeg)) (hv2 (ok_next (ok_num (ok_next (rr_ok hrr177 c225))))), congrArg (upd q_pace ((12 + (q_told 4)).toNatClampNeg)) (hv3 (ok_next (rr_ok hrr177 c225))), congrArg (upd q_mute ((12 + (q_told 4)).toNatClampNeg)) (wS_1 c181), congrArg (upd q_late ((12 + (q_told 4)).toNatClampNeg)) c223.symm⟩, low_t (by decide), lw12_u (iv_w b2 (by decide) (by decide)), lw12_u (iv_w b2 (by decide) (by decide)), (show y234 1 = x0 1 from hq240.trans (hq173.trans (hq161.trans (hq149.trans (hq13))))), (show y234 10 = x0 10 from hq241.trans (hq174.trans (hq162.trans (hq150.trans (hq14))))), (show y234 11 = x0 11 from hq242.trans (hq175.trans (hq163.trans (hq151.trans (hq15))))), (show y234 14 = x0 14 from hq243.trans (hq176.trans (hq164.trans (hq152.trans (hq16))))), by rw [ht]; exact hP9, hD9⟩, hS.F ht⟩) hS.2.2 dX11_readRouter_178
            · have b246 : iv 1 1 (wS tT 9 (rtr4 tT nN sS)) := iv_neLo c223 b222 ivk_0 (by decide) (by decide)
              refine lv_iconst (v := 1) hx hb dX11_readRouter_135 ic_1 ?_
              refine lv_goto (tgt := 140) hx hb dX11_readRouter_136 rfl ?_
              refine va_iast hx hb hK hP hD hS 5 1 rfl rfl (iv_in b17 (by decide) (by decide)) dX11_readRouter_140 (fun H locs hPa hDa hS => ?_)
              clear hP hD
              have hP : va_P (dC, dI) vwCl [(ra 2, .inl (kI, 8, .inl q_told)), (ra 3, .inl (kI, 24, .inl (upd q_kind (12 + (q_told 4)).toNatClampNeg r18))), (ra 4, .inl (kI, 24, .inl (upd q_salt (12 + (q_told 4)).toNatClampNeg r154))), (ra 5, .inl (kI, 24, .inl (upd q_pace (12 + (q_told 4)).toNatClampNeg r166))), (ra 6, .inl (kI, 24, .inl (upd q_mute (12 + (q_told 4)).toNatClampNeg 1))), (ra 7, .inl (kI, 24, .inl (upd q_late (12 + (q_told 4)).toNatClampNeg 1))), (ra 1, .inl (kS, 4, .inr (.inr (.inr (.inr q_kinds))))), (m0, .inr (11, oX11 ra y168)), (ra 13, .inl (kI, 700, .inl q_tape))] H := hPa
              have hD : va_D A [(ra 2, .inl (kI, 8, .inl q_told)), (ra 3, .inl (kI, 24, .inl (upd q_kind (12 + (q_told 4)).toNatClampNeg r18))), (ra 4, .inl (kI, 24, .inl (upd q_salt (12 + (q_told 4)).toNatClampNeg r154))), (ra 5, .inl (kI, 24, .inl (upd q_pace (12 + (q_told 4)).toNatClampNeg r166))), (ra 6, .inl (kI, 24, .inl (upd q_mute (12 + (q_told 4)).toNatClampNeg 1))), (ra 7, .inl (kI, 24, .inl (upd q_late (12 + (q_told 4)).toNatClampNeg 1))), (ra 1, .inl (kS, 4, .inr (.inr (.inr (.inr q_kinds))))), (m0, .inr (11, oX11 ra y168)), (ra 13, .inl (kI, 700, .inl q_tape))] := hDa
              clear hPa hDa
              refine lv_aload_n hx hb dX11_readRouter_141 rfl (lv_at hl 2 rfl) ?_
              refine va_get (D := (dC, dI)) (ci := 11) (v := .int (y168 8)) (C := RX11) (T := TX11) (N := 61) hx hb hts hin11 hown hK hP 7 rfl rfl 22 (Nat.le_of_ble_eq_true rfl) hw_1 (fun _ h9 => h9) rfl dX11_readRouter_142 ?_
              refine lv_if_ne (tgt := 168) hx hb dX11_readRouter_145 rfl (fun c247 => ?_) (fun c247 => ?_)
              · have b248 : iv 1 5 (y168 8) := iv_neLo c247 (hq169 8 : iv 0 5 (y168 8)) ivk_0 (by decide) (by decide)
                have hrr249 : RRd tT nN y168 (manT tT nN (rtr4 tT nN sS)) := (mq_b hrr177 c247) ▸ hrr177
                refine lv_aload_n hx hb dX11_readRouter_168 rfl (lv_at hl 2 rfl) ?_
                refine va_get (D := (dC, dI)) (ci := 11) (v := .ref (ra 2)) (C := RX11) (T := TX11) (N := 61) hx hb hts hin11 hown hK hP 7 rfl rfl 3 (Nat.le_of_ble_eq_true rfl) hw_0 (fun _ h9 => h9) rfl dX11_readRouter_169 ?_
                refine lv_iconst (v := 4) hx hb dX11_readRouter_172 ic_4 ?_
                refine lv_dup2_11 hx hb dX11_readRouter_173 rfl rfl ?_
                refine va_iald hx hb hK hP 0 1 rfl rfl (vp_in_nI (n := 4) (by decide) (by decide)) dX11_readRouter_174 ?_
                refine W.eq (g2 := F0 m 175 ls [.int (q_told 4), .int 4, .ref (ra 2)]) rfl ?_
                refine lv_iconst (v := 1) hx hb dX11_readRouter_175 ic_1 ?_
                refine lv_iadd hx hb dX11_readRouter_176 ?_
                have b250 : iv 1 12 ((q_told 4) + 1) := iv_add b2 ivk_1 (by decide) (by decide) (by decide) (by decide)
                refine va_iast hx hb hK hP hD hS 0 1 rfl rfl (vp_in_nI (n := 4) (by decide) (by decide)) dX11_readRouter_177 (fun H locs hPa hDa hS => ?_)
                clear hP hD
                have hP : va_P (dC, dI) vwCl [(ra 2, .inl (kI, 8, .inl (upd q_told 4 ((q_told 4) + 1)))), (ra 3, .inl (kI, 24, .inl (upd q_kind (12 + (q_told 4)).toNatClampNeg r18))), (ra 4, .inl (kI, 24, .inl (upd q_salt (12 + (q_told 4)).toNatClampNeg r154))), (ra 5, .inl (kI, 24, .inl (upd q_pace (12 + (q_told 4)).toNatClampNeg r166))), (ra 6, .inl (kI, 24, .inl (upd q_mute (12 + (q_told 4)).toNatClampNeg 1))), (ra 7, .inl (kI, 24, .inl (upd q_late (12 + (q_told 4)).toNatClampNeg 1))), (ra 1, .inl (kS, 4, .inr (.inr (.inr (.inr q_kinds))))), (m0, .inr (11, oX11 ra y168)), (ra 13, .inl (kI, 700, .inl q_tape))] H := hPa
                have hD : va_D A [(ra 2, .inl (kI, 8, .inl (upd q_told 4 ((q_told 4) + 1)))), (ra 3, .inl (kI, 24, .inl (upd q_kind (12 + (q_told 4)).toNatClampNeg r18))), (ra 4, .inl (kI, 24, .inl (upd q_salt (12 + (q_told 4)).toNatClampNeg r154))), (ra 5, .inl (kI, 24, .inl (upd q_pace (12 + (q_told 4)).toNatClampNeg r166))), (ra 6, .inl (kI, 24, .inl (upd q_mute (12 + (q_told 4)).toNatClampNeg 1))), (ra 7, .inl (kI, 24, .inl (upd q_late (12 + (q_told 4)).toNatClampNeg 1))), (ra 1, .inl (kS, 4, .inr (.inr (.inr (.inr q_kinds))))), (m0, .inr (11, oX11 ra y168)), (ra 13, .inl (kI, 700, .inl q_tape))] := hDa
                clear hPa hDa
                have hPD9 := cl_s (wc := [(m0, .inr (11, oX11 ra y168)), (ra 2, .inl (kI, 8, .inl (upd q_told 4 ((q_told 4) + 1)))), (ra 3, .inl (kI, 24, .inl (upd q_kind (12 + (q_told 4)).toNatClampNeg r18))), (ra 4, .inl (kI, 24, .inl (upd q_salt (12 + (q_told 4)).toNatClampNeg r154))), (ra 5, .inl (kI, 24, .inl (upd q_pace (12 + (q_told 4)).toNatClampNeg r166))), (ra 6, .inl (kI, 24, .inl (upd q_mute (12 + (q_told 4)).toNatClampNeg 1))), (ra 7, .inl (kI, 24, .inl (upd q_late (12 + (q_told 4)).toNatClampNeg 1))), (ra 13, .inl (kI, 700, .inl q_tape)), (ra 1, .inl (kS, 4, .inr (.inr (.inr (.inr q_kinds)))))]) hP hD [7, 0, 1, 2, 3, 4, 5, 8, 6] rfl (by decide +kernel)
                have hP9 := hPD9.1
                have hD9 := hPD9.2
                exact W.vret hx hb hr (fun t ht hW => ⟨⟨(), rfl, trivial, y168, upd q_told 4 ((q_told 4) + 1), upd q_kind (12 + (q_told 4)).toNatClampNeg r18, upd q_salt (12 + (q_told 4)).toNatClampNeg r154, upd q_pace (12 + (q_told 4)).toNatClampNeg r166, upd q_mute (12 + (q_told 4)).toNatClampNeg 1, upd q_late (12 + (q_told 4)).toNatClampNeg 1, hq169, (fI_u hq_told (k := 4) ((iv_w b250 (by decide) (by decide)))), (fI_u hq_salt (k := (12 + (q_told 4)).toNatClampNeg) (w155.1)), (show (x0 2).toInt ≤ (y168 2).toInt from by omega), (show y168 3 = x0 3 from hq171.trans (hq159.trans (hq146.trans (hq10)))), (show ∀ j : Nat, (j : Int) < (q_told 1).toInt → (q_from j).toInt < (q_to j).toInt from hLT), (show ∀ j : Nat, (j : Int) < (q_told 5).toInt → (q_from (20 + j)).toInt < (q_to (20 + j)).toInt from hLD), (show RRd tT nN y168 (rtrS tT nN sS (q_told 4)) from it_f (Q := RRd tT nN y168) c1 (hrr249)), fun w => absurd w c247, low_t (by decide), lw12_u (iv_w b2 (by decide) (by decide)), lw12_u (iv_w b2 (by decide) (by decide)), (show y168 1 = x0 1 from hq173.trans (hq161.trans (hq149.trans (hq13)))), (show y168 10 = x0 10 from hq174.trans (hq162.trans (hq150.trans (hq14)))), (show y168 11 = x0 11 from hq175.trans (hq163.trans (hq151.trans (hq15)))), (show y168 14 = x0 14 from hq176.trans (hq164.trans (hq152.trans (hq16)))), by rw [ht]; exact hP9, hD9⟩, hS.F ht⟩) hS.2.2 dX11_readRouter_178
              · have b251 : iv 0 0 (y168 8) := iv_eqL c247 ivk_0
                refine lv_aload_n hx hb dX11_readRouter_148 rfl (lv_at hl 2 rfl) ?_
                refine va_get (D := (dC, dI)) (ci := 11) (v := .ref (ra 6)) (C := RX11) (T := TX11) (N := 61) hx hb hts hin11 hown hK hP 7 rfl rfl 7 (Nat.le_of_ble_eq_true rfl) hw_6 (fun _ h9 => h9) rfl dX11_readRouter_149 ?_
                refine lv_iload_n hx hb dX11_readRouter_152 rfl (lv_at hl 1 rfl) ?_
                refine va_iald hx hb hK hP 4 1 rfl rfl (iv_in b17 (by decide) (by decide)) dX11_readRouter_153 ?_
                refine W.eq (g2 := F0 m 154 ls [.int 1]) (by rw [upd_eq]) ?_
                refine lv_aload_n hx hb dX11_readRouter_154 rfl (lv_at hl 2 rfl) ?_
                refine va_get (D := (dC, dI)) (ci := 11) (v := .ref (ra 7)) (C := RX11) (T := TX11) (N := 61) hx hb hts hin11 hown hK hP 7 rfl rfl 8 (Nat.le_of_ble_eq_true rfl) hw_7 (fun _ h9 => h9) rfl dX11_readRouter_155 ?_
                refine lv_iload_n hx hb dX11_readRouter_158 rfl (lv_at hl 1 rfl) ?_
                refine va_iald hx hb hK hP 5 1 rfl rfl (iv_in b17 (by decide) (by decide)) dX11_readRouter_159 ?_
                refine W.eq (g2 := F0 m 160 ls [.int 1, .int 1]) (by rw [upd_eq]) ?_
                refine lv_iadd hx hb dX11_readRouter_160 ?_
                refine lv_topi (fun z252 e253 => ?_)
                obtain rfl : z252 = (2 : Int32) := e253.trans (by decide)
                refine lv_if_le (tgt := 168) hx hb dX11_readRouter_161 rfl (fun c9 => absurd c9 (by decide)) (fun _ => ?_)
                refine lv_aload_n hx hb dX11_readRouter_164 rfl (lv_at hl 2 rfl) ?_
                obtain ⟨hPc, hDc, hFc, hJn⟩ := cl_a (wc := [(m0, .inr (11, oX11 ra y168)), (ra 13, .inl (kI, 700, .inl q_tape))]) (wr := [(ra 2, .inl (kI, 8, .inl q_told)), (ra 3, .inl (kI, 24, .inl (upd q_kind (12 + (q_told 4)).toNatClampNeg r18))), (ra 4, .inl (kI, 24, .inl (upd q_salt (12 + (q_told 4)).toNatClampNeg r154))), (ra 5, .inl (kI, 24, .inl (upd q_pace (12 + (q_told 4)).toNatClampNeg r166))), (ra 6, .inl (kI, 24, .inl (upd q_mute (12 + (q_told 4)).toNatClampNeg 1))), (ra 7, .inl (kI, 24, .inl (upd q_late (12 + (q_told 4)).toNatClampNeg 1))), (ra 1, .inl (kS, 4, .inr (.inr (.inr (.inr q_kinds)))))]) hP hD hS hA [7, 8] [0, 1, 2, 3, 4, 5, 6] rfl rfl (by decide +kernel)
                refine va_callv (va_runV (As := []) (rest := []) ⟨hx, hb, hml, hown, hts⟩ (s11_stepOn l dC dI kB kI kJ kZ kC kS H.size m0 ra y168 q_tape tT nN (nextT tT nN (rtr4 tT nN sS)) (hq169) (hq_tape) (hrr177.2) (stp_of hrr177) (hTQ)) (cwV 0 hts gX11_readRouter_X11_stepOn rfl rfl rfl (by decide +kernel) ⟨Nat.le_of_ble_eq_true rfl, Nat.le_of_ble_eq_true rfl⟩) ⟨fun a U g mk q => by obtain ⟨q0, q1, qP, qE, qD⟩ := q; exact ⟨q0, q1, qP, kE_call qE, qD⟩, va_recv hK hP (ci := 11) (q0 := 7) rfl rfl, fun U hU hW => ⟨rfl, by rw [hU], by rw [hU]; exact hPc, kE_warm hW hE, hDc.weaken (fun _ _ _ _ => trivial)⟩⟩ rfl rfl hl.1 rfl (lv_room (Nat.le_of_ble_eq_true rfl)) dX11_readRouter_165 ⟨Nat.le_of_ble_eq_true rfl, Nat.le_of_ble_eq_true rfl⟩) hS (fun q _ h => hFc q h) hFc (fun u t H locs ht hvm w255 hB hz1 hk1 hS => ?_)
                obtain ⟨y256, hq257, hq258, hq259, hq260, hq261, hq262, hq263, hq264, hq265, hP1, hD1⟩ := hB
                try dsimp only at w255
                obtain ⟨hPa, hDa⟩ := hJn (w1 := [(m0, .inr (11, oX11 ra y256)), (ra 13, .inl (kI, 700, .inl q_tape))]) hk1 ht hP1 hD1
                clear hP hD hPc hDc hFc hJn hP1 hD1 hk1
                have hP : va_P (dC, dI) vwCl [(ra 2, .inl (kI, 8, .inl q_told)), (ra 3, .inl (kI, 24, .inl (upd q_kind (12 + (q_told 4)).toNatClampNeg r18))), (ra 4, .inl (kI, 24, .inl (upd q_salt (12 + (q_told 4)).toNatClampNeg r154))), (ra 5, .inl (kI, 24, .inl (upd q_pace (12 + (q_told 4)).toNatClampNeg r166))), (ra 6, .inl (kI, 24, .inl (upd q_mute (12 + (q_told 4)).toNatClampNeg 1))), (ra 7, .inl (kI, 24, .inl (upd q_late (12 + (q_told 4)).toNatClampNeg 1))), (ra 1, .inl (kS, 4, .inr (.inr (.inr (.inr q_kinds))))), (m0, .inr (11, oX11 ra y256)), (ra 13, .inl (kI, 700, .inl q_tape))] H := hPa
                have hD : va_D A [(ra 2, .inl (kI, 8, .inl q_told)), (ra 3, .inl (kI, 24, .inl (upd q_kind (12 + (q_told 4)).toNatClampNeg r18))), (ra 4, .inl (kI, 24, .inl (upd q_salt (12 + (q_told 4)).toNatClampNeg r154))), (ra 5, .inl (kI, 24, .inl (upd q_pace (12 + (q_told 4)).toNatClampNeg r166))), (ra 6, .inl (kI, 24, .inl (upd q_mute (12 + (q_told 4)).toNatClampNeg 1))), (ra 7, .inl (kI, 24, .inl (upd q_late (12 + (q_told 4)).toNatClampNeg 1))), (ra 1, .inl (kS, 4, .inr (.inr (.inr (.inr q_kinds))))), (m0, .inr (11, oX11 ra y256)), (ra 13, .inl (kI, 700, .inl q_tape))] := hDa
                clear hPa hDa
                refine W.widen (k := 0) (n := 0) (Nat.le_of_ble_eq_true rfl) (Nat.le_of_ble_eq_true rfl) ?_
                have hrr266 : RRd tT nN y256 (manT tT nN (rtr4 tT nN sS)) := (mq_s hrr177 c247 (Or.inl c181)) ▸ hq261
                refine lv_aload_n hx hb dX11_readRouter_168 rfl (lv_at hl 2 rfl) ?_
                refine va_get (D := (dC, dI)) (ci := 11) (v := .ref (ra 2)) (C := RX11) (T := TX11) (N := 61) hx hb hts hin11 hown hK hP 7 rfl rfl 3 (Nat.le_of_ble_eq_true rfl) hw_0 (fun _ h9 => h9) rfl dX11_readRouter_169 ?_
                refine lv_iconst (v := 4) hx hb dX11_readRouter_172 ic_4 ?_
                refine lv_dup2_11 hx hb dX11_readRouter_173 rfl rfl ?_
                refine va_iald hx hb hK hP 0 1 rfl rfl (vp_in_nI (n := 4) (by decide) (by decide)) dX11_readRouter_174 ?_
                refine W.eq (g2 := F0 m 175 ls [.int (q_told 4), .int 4, .ref (ra 2)]) rfl ?_
                refine lv_iconst (v := 1) hx hb dX11_readRouter_175 ic_1 ?_
                refine lv_iadd hx hb dX11_readRouter_176 ?_
                have b267 : iv 1 12 ((q_told 4) + 1) := iv_add b2 ivk_1 (by decide) (by decide) (by decide) (by decide)
                refine va_iast hx hb hK hP hD hS 0 1 rfl rfl (vp_in_nI (n := 4) (by decide) (by decide)) dX11_readRouter_177 (fun H locs hPa hDa hS => ?_)
                clear hP hD
                have hP : va_P (dC, dI) vwCl [(ra 2, .inl (kI, 8, .inl (upd q_told 4 ((q_told 4) + 1)))), (ra 3, .inl (kI, 24, .inl (upd q_kind (12 + (q_told 4)).toNatClampNeg r18))), (ra 4, .inl (kI, 24, .inl (upd q_salt (12 + (q_told 4)).toNatClampNeg r154))), (ra 5, .inl (kI, 24, .inl (upd q_pace (12 + (q_told 4)).toNatClampNeg r166))), (ra 6, .inl (kI, 24, .inl (upd q_mute (12 + (q_told 4)).toNatClampNeg 1))), (ra 7, .inl (kI, 24, .inl (upd q_late (12 + (q_told 4)).toNatClampNeg 1))), (ra 1, .inl (kS, 4, .inr (.inr (.inr (.inr q_kinds))))), (m0, .inr (11, oX11 ra y256)), (ra 13, .inl (kI, 700, .inl q_tape))] H := hPa
                have hD : va_D A [(ra 2, .inl (kI, 8, .inl (upd q_told 4 ((q_told 4) + 1)))), (ra 3, .inl (kI, 24, .inl (upd q_kind (12 + (q_told 4)).toNatClampNeg r18))), (ra 4, .inl (kI, 24, .inl (upd q_salt (12 + (q_told 4)).toNatClampNeg r154))), (ra 5, .inl (kI, 24, .inl (upd q_pace (12 + (q_told 4)).toNatClampNeg r166))), (ra 6, .inl (kI, 24, .inl (upd q_mute (12 + (q_told 4)).toNatClampNeg 1))), (ra 7, .inl (kI, 24, .inl (upd q_late (12 + (q_told 4)).toNatClampNeg 1))), (ra 1, .inl (kS, 4, .inr (.inr (.inr (.inr q_kinds))))), (m0, .inr (11, oX11 ra y256)), (ra 13, .inl (kI, 700, .inl q_tape))] := hDa
                clear hPa hDa
                have hPD9 := cl_s (wc := [(m0, .inr (11, oX11 ra y256)), (ra 2, .inl (kI, 8, .inl (upd q_told 4 ((q_told 4) + 1)))), (ra 3, .inl (kI, 24, .inl (upd q_kind (12 + (q_told 4)).toNatClampNeg r18))), (ra 4, .inl (kI, 24, .inl (upd q_salt (12 + (q_told 4)).toNatClampNeg r154))), (ra 5, .inl (kI, 24, .inl (upd q_pace (12 + (q_told 4)).toNatClampNeg r166))), (ra 6, .inl (kI, 24, .inl (upd q_mute (12 + (q_told 4)).toNatClampNeg 1))), (ra 7, .inl (kI, 24, .inl (upd q_late (12 + (q_told 4)).toNatClampNeg 1))), (ra 13, .inl (kI, 700, .inl q_tape)), (ra 1, .inl (kS, 4, .inr (.inr (.inr (.inr q_kinds)))))]) hP hD [7, 0, 1, 2, 3, 4, 5, 8, 6] rfl (by decide +kernel)
                have hP9 := hPD9.1
                have hD9 := hPD9.2
                exact W.vret hx hb hr (fun t ht hW => ⟨⟨(), rfl, trivial, y256, upd q_told 4 ((q_told 4) + 1), upd q_kind (12 + (q_told 4)).toNatClampNeg r18, upd q_salt (12 + (q_told 4)).toNatClampNeg r154, upd q_pace (12 + (q_told 4)).toNatClampNeg r166, upd q_mute (12 + (q_told 4)).toNatClampNeg 1, upd q_late (12 + (q_told 4)).toNatClampNeg 1, hq257, (fI_u hq_told (k := 4) ((iv_w b267 (by decide) (by decide)))), (fI_u hq_salt (k := (12 + (q_told 4)).toNatClampNeg) (w155.1)), (show (x0 2).toInt ≤ (y256 2).toInt from by omega), (show y256 3 = x0 3 from hq259.trans (hq171.trans (hq159.trans (hq146.trans (hq10))))), (show ∀ j : Nat, (j : Int) < (q_told 1).toInt → (q_from j).toInt < (q_to j).toInt from hLT), (show ∀ j : Nat, (j : Int) < (q_told 5).toInt → (q_from (20 + j)).toInt < (q_to (20 + j)).toInt from hLD), (show RRd tT nN y256 (rtrS tT nN sS (q_told 4)) from it_f (Q := RRd tT nN y256) c1 (hrr266)), fun _ => ⟨rfl, congrArg (upd q_kind ((12 + (q_told 4)).toNatClampNeg)) ((kq_y hwk c20).2 (ok_next (ok_num (ok_next (ok_num (ok_next (rr_ok hrr177 c247))))))), congrArg (upd q_salt ((12 + (q_told 4)).toNatClampNeg)) (hv2 (ok_next (ok_num (ok_next (rr_ok hrr177 c247))))), congrArg (upd q_pace ((12 + (q_told 4)).toNatClampNeg)) (hv3 (ok_next (rr_ok hrr177 c247))), congrArg (upd q_mute ((12 + (q_told 4)).toNatClampNeg)) (wS_1 c181), congrArg (upd q_late ((12 + (q_told 4)).toNatClampNeg)) (wS_1 c223)⟩, low_t (by decide), lw12_u (iv_w b2 (by decide) (by decide)), lw12_u (iv_w b2 (by decide) (by decide)), (show y256 1 = x0 1 from hq262.trans (hq173.trans (hq161.trans (hq149.trans (hq13))))), (show y256 10 = x0 10 from hq263.trans (hq174.trans (hq162.trans (hq150.trans (hq14))))), (show y256 11 = x0 11 from hq264.trans (hq175.trans (hq163.trans (hq151.trans (hq15))))), (show y256 14 = x0 14 from hq265.trans (hq176.trans (hq164.trans (hq152.trans (hq16))))), by rw [ht]; exact hP9, hD9⟩, hS.F ht⟩) hS.2.2 dX11_readRouter_178
      · have b268 : iv (-1) (-1) r18 := iv_eqL c20 ivk_m1
        refine lv_aload_n hx hb dX11_readRouter_52 rfl (lv_at hl 2 rfl) ?_
        refine lv_iconst (v := 1) hx hb dX11_readRouter_53 ic_1 ?_
        obtain ⟨hPc, hDc, hFc, hJn⟩ := cl_a (wc := [(m0, .inr (11, oX11 ra y7))]) (wr := [(ra 2, .inl (kI, 8, .inl q_told)), (ra 3, .inl (kI, 24, .inl q_kind)), (ra 4, .inl (kI, 24, .inl q_salt)), (ra 5, .inl (kI, 24, .inl q_pace)), (ra 6, .inl (kI, 24, .inl q_mute)), (ra 7, .inl (kI, 24, .inl q_late)), (ra 13, .inl (kI, 700, .inl q_tape)), (ra 1, .inl (kS, 4, .inr (.inr (.inr (.inr q_kinds)))))]) hP hD hS hA [6] [0, 1, 2, 3, 4, 5, 7, 8] rfl rfl (by decide +kernel)
        refine va_callv (va_runV (As := [.int 1]) (rest := []) ⟨hx, hb, hml, hown, hts⟩ (s11_wrong l dC dI kB kI kJ kZ kC kS H.size m0 ra y7 1 tT nN (nextT tT nN sS) (hq8) ((iv_w ivk_1 (by decide) (by decide))) (hq12)) (cwV 1 hts gX11_readRouter_X11_wrong rfl rfl rfl (by decide +kernel) ⟨Nat.le_of_ble_eq_true rfl, Nat.le_of_ble_eq_true rfl⟩) ⟨fun a U g mk q => by obtain ⟨q0, q1, qP, qE, qD⟩ := q; exact ⟨q0, q1, qP, kE_call qE, qD⟩, va_recv hK hP (ci := 11) (q0 := 6) rfl rfl, fun U hU hW => ⟨rfl, by rw [hU], by rw [hU]; exact hPc, kE_warm hW hE, hDc.weaken (fun _ _ _ _ => trivial)⟩⟩ rfl rfl hl.1 rfl (lv_room (Nat.le_of_ble_eq_true rfl)) dX11_readRouter_54 ⟨Nat.le_of_ble_eq_true rfl, Nat.le_of_ble_eq_true rfl⟩) hS (fun q _ h => hFc q h) hFc (fun u t H locs ht hvm w270 hB hz1 hk1 hS => ?_)
        obtain ⟨y271, hq272, hq273, hq274, hq275, hq276, hq277, hq278, hq279, hq280, hP1, hD1⟩ := hB
        try dsimp only at w270
        obtain ⟨hPa, hDa⟩ := hJn (w1 := [(m0, .inr (11, oX11 ra y271))]) hk1 ht hP1 hD1
        clear hP hD hPc hDc hFc hJn hP1 hD1 hk1
        have hP : va_P (dC, dI) vwCl [(ra 2, .inl (kI, 8, .inl q_told)), (ra 3, .inl (kI, 24, .inl q_kind)), (ra 4, .inl (kI, 24, .inl q_salt)), (ra 5, .inl (kI, 24, .inl q_pace)), (ra 6, .inl (kI, 24, .inl q_mute)), (ra 7, .inl (kI, 24, .inl q_late)), (ra 13, .inl (kI, 700, .inl q_tape)), (ra 1, .inl (kS, 4, .inr (.inr (.inr (.inr q_kinds))))), (m0, .inr (11, oX11 ra y271))] H := hPa
        have hD : va_D A [(ra 2, .inl (kI, 8, .inl q_told)), (ra 3, .inl (kI, 24, .inl q_kind)), (ra 4, .inl (kI, 24, .inl q_salt)), (ra 5, .inl (kI, 24, .inl q_pace)), (ra 6, .inl (kI, 24, .inl q_mute)), (ra 7, .inl (kI, 24, .inl q_late)), (ra 13, .inl (kI, 700, .inl q_tape)), (ra 1, .inl (kS, 4, .inr (.inr (.inr (.inr q_kinds))))), (m0, .inr (11, oX11 ra y271))] := hDa
        clear hPa hDa
        refine W.widen (k := 0) (n := 0) (Nat.le_of_ble_eq_true rfl) (Nat.le_of_ble_eq_true rfl) ?_
        have hrr281 : RRd tT nN y271 (kndT tT (rtr1 tT nN sS)) := (kq_n hwk c20) ▸ hq276
        refine lv_aload_n hx hb dX11_readRouter_57 rfl (lv_at hl 2 rfl) ?_
        refine va_get (D := (dC, dI)) (ci := 11) (v := .int (y271 8)) (C := RX11) (T := TX11) (N := 61) hx hb hts hin11 hown hK hP 8 rfl rfl 22 (Nat.le_of_ble_eq_true rfl) hw_1 (fun _ h9 => h9) rfl dX11_readRouter_58 ?_
        refine lv_if_ne (tgt := 68) hx hb dX11_readRouter_61 rfl (fun _ => ?_) (fun c9 => absurd c9 (iv_ne hq273 ivk_0 (by decide)))
        have hrr282 : RRd tT nN y271 (rtr2 tT nN sS) := rr_stepN hrr281 (iv_ne hq273 ivk_0 (by decide))
        refine lv_aload_n hx hb dX11_readRouter_68 rfl (lv_at hl 2 rfl) ?_
        refine va_get (D := (dC, dI)) (ci := 11) (v := .ref (ra 3)) (C := RX11) (T := TX11) (N := 61) hx hb hts hin11 hown hK hP 8 rfl rfl 4 (Nat.le_of_ble_eq_true rfl) hw_3 (fun _ h9 => h9) rfl dX11_readRouter_69 ?_
        refine lv_iload_n hx hb dX11_readRouter_72 rfl (lv_at hl 1 rfl) ?_
        refine lv_iload_n hx hb dX11_readRouter_73 rfl (lv_at hl 0 rfl) ?_
        refine va_iast hx hb hK hP hD hS 1 1 rfl rfl (iv_in b17 (by decide) (by decide)) dX11_readRouter_74 (fun H locs hPa hDa hS => ?_)
        clear hP hD
        have hP : va_P (dC, dI) vwCl [(ra 2, .inl (kI, 8, .inl q_told)), (ra 3, .inl (kI, 24, .inl (upd q_kind (12 + (q_told 4)).toNatClampNeg r18))), (ra 4, .inl (kI, 24, .inl q_salt)), (ra 5, .inl (kI, 24, .inl q_pace)), (ra 6, .inl (kI, 24, .inl q_mute)), (ra 7, .inl (kI, 24, .inl q_late)), (ra 13, .inl (kI, 700, .inl q_tape)), (ra 1, .inl (kS, 4, .inr (.inr (.inr (.inr q_kinds))))), (m0, .inr (11, oX11 ra y271))] H := hPa
        have hD : va_D A [(ra 2, .inl (kI, 8, .inl q_told)), (ra 3, .inl (kI, 24, .inl (upd q_kind (12 + (q_told 4)).toNatClampNeg r18))), (ra 4, .inl (kI, 24, .inl q_salt)), (ra 5, .inl (kI, 24, .inl q_pace)), (ra 6, .inl (kI, 24, .inl q_mute)), (ra 7, .inl (kI, 24, .inl q_late)), (ra 13, .inl (kI, 700, .inl q_tape)), (ra 1, .inl (kS, 4, .inr (.inr (.inr (.inr q_kinds))))), (m0, .inr (11, oX11 ra y271))] := hDa
        clear hPa hDa
        refine lv_aload_n hx hb dX11_readRouter_75 rfl (lv_at hl 2 rfl) ?_
        refine va_get (D := (dC, dI)) (ci := 11) (v := .ref (ra 4)) (C := RX11) (T := TX11) (N := 61) hx hb hts hin11 hown hK hP 8 rfl rfl 5 (Nat.le_of_ble_eq_true rfl) hw_4 (fun _ h9 => h9) rfl dX11_readRouter_76 ?_
        refine lv_iload_n hx hb dX11_readRouter_79 rfl (lv_at hl 1 rfl) ?_
        refine lv_aload_n hx hb dX11_readRouter_80 rfl (lv_at hl 2 rfl) ?_
        refine lv_iconst (v := 0) hx hb dX11_readRouter_81 ic_0 ?_
        refine lv_bipush (v := 15) hx hb dX11_readRouter_82 bp_15 ?_
        obtain ⟨hPc, hDc, hFc, hJn⟩ := cl_a (wc := [(m0, .inr (11, oX11 ra y271)), (ra 13, .inl (kI, 700, .inl q_tape))]) (wr := [(ra 2, .inl (kI, 8, .inl q_told)), (ra 3, .inl (kI, 24, .inl (upd q_kind (12 + (q_told 4)).toNatClampNeg r18))), (ra 4, .inl (kI, 24, .inl q_salt)), (ra 5, .inl (kI, 24, .inl q_pace)), (ra 6, .inl (kI, 24, .inl q_mute)), (ra 7, .inl (kI, 24, .inl q_late)), (ra 1, .inl (kS, 4, .inr (.inr (.inr (.inr q_kinds)))))]) hP hD hS hA [8, 6] [0, 1, 2, 3, 4, 5, 7] rfl rfl (by decide +kernel)
        refine va_calli (va_runV (As := [.int 0, .int 15]) (rest := [.int (12 + (q_told 4)), .ref (ra 4)]) ⟨hx, hb, hml, hown, hts⟩ (s11_readNumber_0_15 l dC dI kB kI kJ kZ kC kS H.size m0 ra y271 q_tape tT nN (rtr2 tT nN sS) (hq272) (hq_tape) (hrr282) (hTQ)) (cwV 2 hts gX11_readRouter_X11_readNumber rfl rfl rfl (by decide +kernel) ⟨Nat.le_of_ble_eq_true rfl, Nat.le_of_ble_eq_true rfl⟩) ⟨fun a U g mk q => by obtain ⟨q0, q1, qP, qE, qD⟩ := q; exact ⟨q0, q1, qP, kE_call qE, qD⟩, va_recv hK hP (ci := 11) (q0 := 8) rfl rfl, fun U hU hW => ⟨rfl, by rw [hU], by rw [hU]; exact hPc, kE_warm hW hE, hDc.weaken (fun _ _ _ _ => trivial)⟩⟩ rfl rfl hl.1 rfl (lv_room (Nat.le_of_ble_eq_true rfl)) dX11_readRouter_84 ⟨Nat.le_of_ble_eq_true rfl, Nat.le_of_ble_eq_true rfl⟩) hS (fun q _ h => hFc q h) hFc (fun r283 u t H locs ht hvm w284 hB hz1 hk1 hS => ?_)
        obtain ⟨y285, hq286, hq287, hq288, hq289, hq290, hq291, hq292, hq293, hP1, hD1⟩ := hB
        try dsimp only at w284
        obtain ⟨hPa, hDa⟩ := hJn (w1 := [(m0, .inr (11, oX11 ra y285)), (ra 13, .inl (kI, 700, .inl q_tape))]) hk1 ht hP1 hD1
        clear hP hD hPc hDc hFc hJn hP1 hD1 hk1
        have hP : va_P (dC, dI) vwCl [(ra 2, .inl (kI, 8, .inl q_told)), (ra 3, .inl (kI, 24, .inl (upd q_kind (12 + (q_told 4)).toNatClampNeg r18))), (ra 4, .inl (kI, 24, .inl q_salt)), (ra 5, .inl (kI, 24, .inl q_pace)), (ra 6, .inl (kI, 24, .inl q_mute)), (ra 7, .inl (kI, 24, .inl q_late)), (ra 1, .inl (kS, 4, .inr (.inr (.inr (.inr q_kinds))))), (m0, .inr (11, oX11 ra y285)), (ra 13, .inl (kI, 700, .inl q_tape))] H := hPa
        have hD : va_D A [(ra 2, .inl (kI, 8, .inl q_told)), (ra 3, .inl (kI, 24, .inl (upd q_kind (12 + (q_told 4)).toNatClampNeg r18))), (ra 4, .inl (kI, 24, .inl q_salt)), (ra 5, .inl (kI, 24, .inl q_pace)), (ra 6, .inl (kI, 24, .inl q_mute)), (ra 7, .inl (kI, 24, .inl q_late)), (ra 1, .inl (kS, 4, .inr (.inr (.inr (.inr q_kinds))))), (m0, .inr (11, oX11 ra y285)), (ra 13, .inl (kI, 700, .inl q_tape))] := hDa
        clear hPa hDa
        refine W.widen (k := 0) (n := 0) (Nat.le_of_ble_eq_true rfl) (Nat.le_of_ble_eq_true rfl) ?_
        have hv2 := w284.2
        refine va_iast hx hb hK hP hD hS 2 1 rfl rfl (iv_in b17 (by decide) (by decide)) dX11_readRouter_87 (fun H locs hPa hDa hS => ?_)
        clear hP hD
        have hP : va_P (dC, dI) vwCl [(ra 2, .inl (kI, 8, .inl q_told)), (ra 3, .inl (kI, 24, .inl (upd q_kind (12 + (q_told 4)).toNatClampNeg r18))), (ra 4, .inl (kI, 24, .inl (upd q_salt (12 + (q_told 4)).toNatClampNeg r283))), (ra 5, .inl (kI, 24, .inl q_pace)), (ra 6, .inl (kI, 24, .inl q_mute)), (ra 7, .inl (kI, 24, .inl q_late)), (ra 1, .inl (kS, 4, .inr (.inr (.inr (.inr q_kinds))))), (m0, .inr (11, oX11 ra y285)), (ra 13, .inl (kI, 700, .inl q_tape))] H := hPa
        have hD : va_D A [(ra 2, .inl (kI, 8, .inl q_told)), (ra 3, .inl (kI, 24, .inl (upd q_kind (12 + (q_told 4)).toNatClampNeg r18))), (ra 4, .inl (kI, 24, .inl (upd q_salt (12 + (q_told 4)).toNatClampNeg r283))), (ra 5, .inl (kI, 24, .inl q_pace)), (ra 6, .inl (kI, 24, .inl q_mute)), (ra 7, .inl (kI, 24, .inl q_late)), (ra 1, .inl (kS, 4, .inr (.inr (.inr (.inr q_kinds))))), (m0, .inr (11, oX11 ra y285)), (ra 13, .inl (kI, 700, .inl q_tape))] := hDa
        clear hPa hDa
        have hrr294 : RRd tT nN y285 (rtr3 tT nN sS) := hq289
        refine lv_aload_n hx hb dX11_readRouter_88 rfl (lv_at hl 2 rfl) ?_
        refine va_get (D := (dC, dI)) (ci := 11) (v := .ref (ra 5)) (C := RX11) (T := TX11) (N := 61) hx hb hts hin11 hown hK hP 7 rfl rfl 6 (Nat.le_of_ble_eq_true rfl) hw_5 (fun _ h9 => h9) rfl dX11_readRouter_89 ?_
        refine lv_iload_n hx hb dX11_readRouter_92 rfl (lv_at hl 1 rfl) ?_
        refine lv_aload_n hx hb dX11_readRouter_93 rfl (lv_at hl 2 rfl) ?_
        refine lv_iconst (v := 1) hx hb dX11_readRouter_94 ic_1 ?_
        refine lv_bipush (v := 60) hx hb dX11_readRouter_95 bp_60 ?_
        obtain ⟨hPc, hDc, hFc, hJn⟩ := cl_a (wc := [(m0, .inr (11, oX11 ra y285)), (ra 13, .inl (kI, 700, .inl q_tape))]) (wr := [(ra 2, .inl (kI, 8, .inl q_told)), (ra 3, .inl (kI, 24, .inl (upd q_kind (12 + (q_told 4)).toNatClampNeg r18))), (ra 4, .inl (kI, 24, .inl (upd q_salt (12 + (q_told 4)).toNatClampNeg r283))), (ra 5, .inl (kI, 24, .inl q_pace)), (ra 6, .inl (kI, 24, .inl q_mute)), (ra 7, .inl (kI, 24, .inl q_late)), (ra 1, .inl (kS, 4, .inr (.inr (.inr (.inr q_kinds)))))]) hP hD hS hA [7, 8] [0, 1, 2, 3, 4, 5, 6] rfl rfl (by decide +kernel)
        refine va_calli (va_runV (As := [.int 1, .int 60]) (rest := [.int (12 + (q_told 4)), .ref (ra 5)]) ⟨hx, hb, hml, hown, hts⟩ (s11_readNumber_1_60 l dC dI kB kI kJ kZ kC kS H.size m0 ra y285 q_tape tT nN (rtr3 tT nN sS) (hq286) (hq_tape) (hrr294) (hTQ)) (cwV 2 hts gX11_readRouter_X11_readNumber rfl rfl rfl (by decide +kernel) ⟨Nat.le_of_ble_eq_true rfl, Nat.le_of_ble_eq_true rfl⟩) ⟨fun a U g mk q => by obtain ⟨q0, q1, qP, qE, qD⟩ := q; exact ⟨q0, q1, qP, kE_call qE, qD⟩, va_recv hK hP (ci := 11) (q0 := 7) rfl rfl, fun U hU hW => ⟨rfl, by rw [hU], by rw [hU]; exact hPc, kE_warm hW hE, hDc.weaken (fun _ _ _ _ => trivial)⟩⟩ rfl rfl hl.1 rfl (lv_room (Nat.le_of_ble_eq_true rfl)) dX11_readRouter_97 ⟨Nat.le_of_ble_eq_true rfl, Nat.le_of_ble_eq_true rfl⟩) hS (fun q _ h => hFc q h) hFc (fun r295 u t H locs ht hvm w296 hB hz1 hk1 hS => ?_)
        obtain ⟨y297, hq298, hq299, hq300, hq301, hq302, hq303, hq304, hq305, hP1, hD1⟩ := hB
        try dsimp only at w296
        obtain ⟨hPa, hDa⟩ := hJn (w1 := [(m0, .inr (11, oX11 ra y297)), (ra 13, .inl (kI, 700, .inl q_tape))]) hk1 ht hP1 hD1
        clear hP hD hPc hDc hFc hJn hP1 hD1 hk1
        have hP : va_P (dC, dI) vwCl [(ra 2, .inl (kI, 8, .inl q_told)), (ra 3, .inl (kI, 24, .inl (upd q_kind (12 + (q_told 4)).toNatClampNeg r18))), (ra 4, .inl (kI, 24, .inl (upd q_salt (12 + (q_told 4)).toNatClampNeg r283))), (ra 5, .inl (kI, 24, .inl q_pace)), (ra 6, .inl (kI, 24, .inl q_mute)), (ra 7, .inl (kI, 24, .inl q_late)), (ra 1, .inl (kS, 4, .inr (.inr (.inr (.inr q_kinds))))), (m0, .inr (11, oX11 ra y297)), (ra 13, .inl (kI, 700, .inl q_tape))] H := hPa
        have hD : va_D A [(ra 2, .inl (kI, 8, .inl q_told)), (ra 3, .inl (kI, 24, .inl (upd q_kind (12 + (q_told 4)).toNatClampNeg r18))), (ra 4, .inl (kI, 24, .inl (upd q_salt (12 + (q_told 4)).toNatClampNeg r283))), (ra 5, .inl (kI, 24, .inl q_pace)), (ra 6, .inl (kI, 24, .inl q_mute)), (ra 7, .inl (kI, 24, .inl q_late)), (ra 1, .inl (kS, 4, .inr (.inr (.inr (.inr q_kinds))))), (m0, .inr (11, oX11 ra y297)), (ra 13, .inl (kI, 700, .inl q_tape))] := hDa
        clear hPa hDa
        refine W.widen (k := 0) (n := 0) (Nat.le_of_ble_eq_true rfl) (Nat.le_of_ble_eq_true rfl) ?_
        have hv3 := w296.2
        refine va_iast hx hb hK hP hD hS 3 1 rfl rfl (iv_in b17 (by decide) (by decide)) dX11_readRouter_100 (fun H locs hPa hDa hS => ?_)
        clear hP hD
        have hP : va_P (dC, dI) vwCl [(ra 2, .inl (kI, 8, .inl q_told)), (ra 3, .inl (kI, 24, .inl (upd q_kind (12 + (q_told 4)).toNatClampNeg r18))), (ra 4, .inl (kI, 24, .inl (upd q_salt (12 + (q_told 4)).toNatClampNeg r283))), (ra 5, .inl (kI, 24, .inl (upd q_pace (12 + (q_told 4)).toNatClampNeg r295))), (ra 6, .inl (kI, 24, .inl q_mute)), (ra 7, .inl (kI, 24, .inl q_late)), (ra 1, .inl (kS, 4, .inr (.inr (.inr (.inr q_kinds))))), (m0, .inr (11, oX11 ra y297)), (ra 13, .inl (kI, 700, .inl q_tape))] H := hPa
        have hD : va_D A [(ra 2, .inl (kI, 8, .inl q_told)), (ra 3, .inl (kI, 24, .inl (upd q_kind (12 + (q_told 4)).toNatClampNeg r18))), (ra 4, .inl (kI, 24, .inl (upd q_salt (12 + (q_told 4)).toNatClampNeg r283))), (ra 5, .inl (kI, 24, .inl (upd q_pace (12 + (q_told 4)).toNatClampNeg r295))), (ra 6, .inl (kI, 24, .inl q_mute)), (ra 7, .inl (kI, 24, .inl q_late)), (ra 1, .inl (kS, 4, .inr (.inr (.inr (.inr q_kinds))))), (m0, .inr (11, oX11 ra y297)), (ra 13, .inl (kI, 700, .inl q_tape))] := hDa
        clear hPa hDa
        have hrr306 : RRd tT nN y297 (rtr4 tT nN sS) := hq301
        refine lv_aload_n hx hb dX11_readRouter_101 rfl (lv_at hl 2 rfl) ?_
        refine va_get (D := (dC, dI)) (ci := 11) (v := .ref (ra 6)) (C := RX11) (T := TX11) (N := 61) hx hb hts hin11 hown hK hP 7 rfl rfl 7 (Nat.le_of_ble_eq_true rfl) hw_6 (fun _ h9 => h9) rfl dX11_readRouter_102 ?_
        refine lv_iload_n hx hb dX11_readRouter_105 rfl (lv_at hl 1 rfl) ?_
        refine lv_aload_n hx hb dX11_readRouter_106 rfl (lv_at hl 2 rfl) ?_
        refine va_ldcS hx hb hown hKL.2.2.2.2.2.2.2.2.2.2.2.2.2.2.2.2.2.2.2.2.2.1 dX11_readRouter_107 ?_
        obtain ⟨hPc, hDc, hFc, hJn⟩ := cl_a (wc := [(m0, .inr (11, oX11 ra y297)), (ra 13, .inl (kI, 700, .inl q_tape))]) (wr := [(ra 2, .inl (kI, 8, .inl q_told)), (ra 3, .inl (kI, 24, .inl (upd q_kind (12 + (q_told 4)).toNatClampNeg r18))), (ra 4, .inl (kI, 24, .inl (upd q_salt (12 + (q_told 4)).toNatClampNeg r283))), (ra 5, .inl (kI, 24, .inl (upd q_pace (12 + (q_told 4)).toNatClampNeg r295))), (ra 6, .inl (kI, 24, .inl q_mute)), (ra 7, .inl (kI, 24, .inl q_late)), (ra 1, .inl (kS, 4, .inr (.inr (.inr (.inr q_kinds)))))]) hP hD hS hA [7, 8] [0, 1, 2, 3, 4, 5, 6] rfl rfl (by decide +kernel)
        refine va_calli (va_runV (As := [.ref (adK 8)]) (rest := [.int (12 + (q_told 4)), .ref (ra 6)]) ⟨hx, hb, hml, hown, hts⟩ (s11_is l dC dI kB kI kJ kZ kC kS H.size adK adV m0 ra y297 q_tape 8 tT nN (rtr4 tT nN sS) (hq298) (hq_tape) ((by decide)) (hrr306) (hTQ)) (cwV 1 hts gX11_readRouter_X11_is rfl rfl rfl (by decide +kernel) ⟨Nat.le_of_ble_eq_true rfl, Nat.le_of_ble_eq_true rfl⟩) ⟨fun a U g mk q => by obtain ⟨q0, q1, qP, qE, qD, qL⟩ := q; exact ⟨q0, q1, qP, kE_call qE, qD, kL_call qL⟩, va_recv hK hP (ci := 11) (q0 := 7) rfl rfl, fun U hU hW => ⟨rfl, by rw [hU], by rw [hU]; exact hPc, kE_warm hW hE, hDc.weaken (fun _ _ _ _ => trivial), kL_at hKL hS hFc hW hU⟩⟩ rfl rfl hl.1 rfl (lv_room (Nat.le_of_ble_eq_true rfl)) dX11_readRouter_109 ⟨Nat.le_of_ble_eq_true rfl, Nat.le_of_ble_eq_true rfl⟩) hS (fun q _ h => hFc q h) hFc (fun r307 u t H locs ht hvm w308 hB hz1 hk1 hS => ?_)
        obtain ⟨hP1, hD1⟩ := hB
        try dsimp only at w308
        obtain ⟨hPa, hDa⟩ := hJn (w1 := [(m0, .inr (11, oX11 ra y297)), (ra 13, .inl (kI, 700, .inl q_tape))]) hk1 ht hP1 hD1
        clear hP hD hPc hDc hFc hJn hP1 hD1 hk1
        have hP : va_P (dC, dI) vwCl [(ra 2, .inl (kI, 8, .inl q_told)), (ra 3, .inl (kI, 24, .inl (upd q_kind (12 + (q_told 4)).toNatClampNeg r18))), (ra 4, .inl (kI, 24, .inl (upd q_salt (12 + (q_told 4)).toNatClampNeg r283))), (ra 5, .inl (kI, 24, .inl (upd q_pace (12 + (q_told 4)).toNatClampNeg r295))), (ra 6, .inl (kI, 24, .inl q_mute)), (ra 7, .inl (kI, 24, .inl q_late)), (ra 1, .inl (kS, 4, .inr (.inr (.inr (.inr q_kinds))))), (m0, .inr (11, oX11 ra y297)), (ra 13, .inl (kI, 700, .inl q_tape))] H := hPa
        have hD : va_D A [(ra 2, .inl (kI, 8, .inl q_told)), (ra 3, .inl (kI, 24, .inl (upd q_kind (12 + (q_told 4)).toNatClampNeg r18))), (ra 4, .inl (kI, 24, .inl (upd q_salt (12 + (q_told 4)).toNatClampNeg r283))), (ra 5, .inl (kI, 24, .inl (upd q_pace (12 + (q_told 4)).toNatClampNeg r295))), (ra 6, .inl (kI, 24, .inl q_mute)), (ra 7, .inl (kI, 24, .inl q_late)), (ra 1, .inl (kS, 4, .inr (.inr (.inr (.inr q_kinds))))), (m0, .inr (11, oX11 ra y297)), (ra 13, .inl (kI, 700, .inl q_tape))] := hDa
        clear hPa hDa
        refine W.widen (k := 0) (n := 0) (Nat.le_of_ble_eq_true rfl) (Nat.le_of_ble_eq_true rfl) ?_
        obtain ⟨w308, b309⟩ := w308
        subst w308
        refine lv_if_eq (tgt := 119) hx hb dX11_readRouter_112 rfl (fun c310 => ?_) (fun c310 => ?_)
        · have b311 : iv 0 0 (wS tT 8 (rtr4 tT nN sS)) := iv_eqL c310 ivk_0
          refine lv_iconst (v := 0) hx hb dX11_readRouter_119 ic_0 ?_
          refine va_iast hx hb hK hP hD hS 4 1 rfl rfl (iv_in b17 (by decide) (by decide)) dX11_readRouter_120 (fun H locs hPa hDa hS => ?_)
          clear hP hD
          have hP : va_P (dC, dI) vwCl [(ra 2, .inl (kI, 8, .inl q_told)), (ra 3, .inl (kI, 24, .inl (upd q_kind (12 + (q_told 4)).toNatClampNeg r18))), (ra 4, .inl (kI, 24, .inl (upd q_salt (12 + (q_told 4)).toNatClampNeg r283))), (ra 5, .inl (kI, 24, .inl (upd q_pace (12 + (q_told 4)).toNatClampNeg r295))), (ra 6, .inl (kI, 24, .inl (upd q_mute (12 + (q_told 4)).toNatClampNeg 0))), (ra 7, .inl (kI, 24, .inl q_late)), (ra 1, .inl (kS, 4, .inr (.inr (.inr (.inr q_kinds))))), (m0, .inr (11, oX11 ra y297)), (ra 13, .inl (kI, 700, .inl q_tape))] H := hPa
          have hD : va_D A [(ra 2, .inl (kI, 8, .inl q_told)), (ra 3, .inl (kI, 24, .inl (upd q_kind (12 + (q_told 4)).toNatClampNeg r18))), (ra 4, .inl (kI, 24, .inl (upd q_salt (12 + (q_told 4)).toNatClampNeg r283))), (ra 5, .inl (kI, 24, .inl (upd q_pace (12 + (q_told 4)).toNatClampNeg r295))), (ra 6, .inl (kI, 24, .inl (upd q_mute (12 + (q_told 4)).toNatClampNeg 0))), (ra 7, .inl (kI, 24, .inl q_late)), (ra 1, .inl (kS, 4, .inr (.inr (.inr (.inr q_kinds))))), (m0, .inr (11, oX11 ra y297)), (ra 13, .inl (kI, 700, .inl q_tape))] := hDa
          clear hPa hDa
          refine lv_aload_n hx hb dX11_readRouter_121 rfl (lv_at hl 2 rfl) ?_
          refine va_get (D := (dC, dI)) (ci := 11) (v := .ref (ra 7)) (C := RX11) (T := TX11) (N := 61) hx hb hts hin11 hown hK hP 7 rfl rfl 8 (Nat.le_of_ble_eq_true rfl) hw_7 (fun _ h9 => h9) rfl dX11_readRouter_122 ?_
          refine lv_iload_n hx hb dX11_readRouter_125 rfl (lv_at hl 1 rfl) ?_
          refine lv_aload_n hx hb dX11_readRouter_126 rfl (lv_at hl 2 rfl) ?_
          refine va_ldcS hx hb hown hKL.2.2.2.2.2.2.2.2.2.2.2.2.2.2.2.2.2.2.2.2.2.2 dX11_readRouter_127 ?_
          obtain ⟨hPc, hDc, hFc, hJn⟩ := cl_a (wc := [(m0, .inr (11, oX11 ra y297)), (ra 13, .inl (kI, 700, .inl q_tape))]) (wr := [(ra 2, .inl (kI, 8, .inl q_told)), (ra 3, .inl (kI, 24, .inl (upd q_kind (12 + (q_told 4)).toNatClampNeg r18))), (ra 4, .inl (kI, 24, .inl (upd q_salt (12 + (q_told 4)).toNatClampNeg r283))), (ra 5, .inl (kI, 24, .inl (upd q_pace (12 + (q_told 4)).toNatClampNeg r295))), (ra 6, .inl (kI, 24, .inl (upd q_mute (12 + (q_told 4)).toNatClampNeg 0))), (ra 7, .inl (kI, 24, .inl q_late)), (ra 1, .inl (kS, 4, .inr (.inr (.inr (.inr q_kinds)))))]) hP hD hS hA [7, 8] [0, 1, 2, 3, 4, 5, 6] rfl rfl (by decide +kernel)
          refine va_calli (va_runV (As := [.ref (adK 9)]) (rest := [.int (12 + (q_told 4)), .ref (ra 7)]) ⟨hx, hb, hml, hown, hts⟩ (s11_is l dC dI kB kI kJ kZ kC kS H.size adK adV m0 ra y297 q_tape 9 tT nN (rtr4 tT nN sS) (hq298) (hq_tape) ((by decide)) (hrr306) (hTQ)) (cwV 1 hts gX11_readRouter_X11_is rfl rfl rfl (by decide +kernel) ⟨Nat.le_of_ble_eq_true rfl, Nat.le_of_ble_eq_true rfl⟩) ⟨fun a U g mk q => by obtain ⟨q0, q1, qP, qE, qD, qL⟩ := q; exact ⟨q0, q1, qP, kE_call qE, qD, kL_call qL⟩, va_recv hK hP (ci := 11) (q0 := 7) rfl rfl, fun U hU hW => ⟨rfl, by rw [hU], by rw [hU]; exact hPc, kE_warm hW hE, hDc.weaken (fun _ _ _ _ => trivial), kL_at hKL hS hFc hW hU⟩⟩ rfl rfl hl.1 rfl (lv_room (Nat.le_of_ble_eq_true rfl)) dX11_readRouter_129 ⟨Nat.le_of_ble_eq_true rfl, Nat.le_of_ble_eq_true rfl⟩) hS (fun q _ h => hFc q h) hFc (fun r312 u t H locs ht hvm w313 hB hz1 hk1 hS => ?_)
          obtain ⟨hP1, hD1⟩ := hB
          try dsimp only at w313
          obtain ⟨hPa, hDa⟩ := hJn (w1 := [(m0, .inr (11, oX11 ra y297)), (ra 13, .inl (kI, 700, .inl q_tape))]) hk1 ht hP1 hD1
          clear hP hD hPc hDc hFc hJn hP1 hD1 hk1
          have hP : va_P (dC, dI) vwCl [(ra 2, .inl (kI, 8, .inl q_told)), (ra 3, .inl (kI, 24, .inl (upd q_kind (12 + (q_told 4)).toNatClampNeg r18))), (ra 4, .inl (kI, 24, .inl (upd q_salt (12 + (q_told 4)).toNatClampNeg r283))), (ra 5, .inl (kI, 24, .inl (upd q_pace (12 + (q_told 4)).toNatClampNeg r295))), (ra 6, .inl (kI, 24, .inl (upd q_mute (12 + (q_told 4)).toNatClampNeg 0))), (ra 7, .inl (kI, 24, .inl q_late)), (ra 1, .inl (kS, 4, .inr (.inr (.inr (.inr q_kinds))))), (m0, .inr (11, oX11 ra y297)), (ra 13, .inl (kI, 700, .inl q_tape))] H := hPa
          have hD : va_D A [(ra 2, .inl (kI, 8, .inl q_told)), (ra 3, .inl (kI, 24, .inl (upd q_kind (12 + (q_told 4)).toNatClampNeg r18))), (ra 4, .inl (kI, 24, .inl (upd q_salt (12 + (q_told 4)).toNatClampNeg r283))), (ra 5, .inl (kI, 24, .inl (upd q_pace (12 + (q_told 4)).toNatClampNeg r295))), (ra 6, .inl (kI, 24, .inl (upd q_mute (12 + (q_told 4)).toNatClampNeg 0))), (ra 7, .inl (kI, 24, .inl q_late)), (ra 1, .inl (kS, 4, .inr (.inr (.inr (.inr q_kinds))))), (m0, .inr (11, oX11 ra y297)), (ra 13, .inl (kI, 700, .inl q_tape))] := hDa
          clear hPa hDa
          refine W.widen (k := 0) (n := 0) (Nat.le_of_ble_eq_true rfl) (Nat.le_of_ble_eq_true rfl) ?_
          obtain ⟨w313, b314⟩ := w313
          subst w313
          refine lv_if_eq (tgt := 139) hx hb dX11_readRouter_132 rfl (fun c315 => ?_) (fun c315 => ?_)
          · have b316 : iv 0 0 (wS tT 9 (rtr4 tT nN sS)) := iv_eqL c315 ivk_0
            refine lv_iconst (v := 0) hx hb dX11_readRouter_139 ic_0 ?_
            refine va_iast hx hb hK hP hD hS 5 1 rfl rfl (iv_in b17 (by decide) (by decide)) dX11_readRouter_140 (fun H locs hPa hDa hS => ?_)
            clear hP hD
            have hP : va_P (dC, dI) vwCl [(ra 2, .inl (kI, 8, .inl q_told)), (ra 3, .inl (kI, 24, .inl (upd q_kind (12 + (q_told 4)).toNatClampNeg r18))), (ra 4, .inl (kI, 24, .inl (upd q_salt (12 + (q_told 4)).toNatClampNeg r283))), (ra 5, .inl (kI, 24, .inl (upd q_pace (12 + (q_told 4)).toNatClampNeg r295))), (ra 6, .inl (kI, 24, .inl (upd q_mute (12 + (q_told 4)).toNatClampNeg 0))), (ra 7, .inl (kI, 24, .inl (upd q_late (12 + (q_told 4)).toNatClampNeg 0))), (ra 1, .inl (kS, 4, .inr (.inr (.inr (.inr q_kinds))))), (m0, .inr (11, oX11 ra y297)), (ra 13, .inl (kI, 700, .inl q_tape))] H := hPa
            have hD : va_D A [(ra 2, .inl (kI, 8, .inl q_told)), (ra 3, .inl (kI, 24, .inl (upd q_kind (12 + (q_told 4)).toNatClampNeg r18))), (ra 4, .inl (kI, 24, .inl (upd q_salt (12 + (q_told 4)).toNatClampNeg r283))), (ra 5, .inl (kI, 24, .inl (upd q_pace (12 + (q_told 4)).toNatClampNeg r295))), (ra 6, .inl (kI, 24, .inl (upd q_mute (12 + (q_told 4)).toNatClampNeg 0))), (ra 7, .inl (kI, 24, .inl (upd q_late (12 + (q_told 4)).toNatClampNeg 0))), (ra 1, .inl (kS, 4, .inr (.inr (.inr (.inr q_kinds))))), (m0, .inr (11, oX11 ra y297)), (ra 13, .inl (kI, 700, .inl q_tape))] := hDa
            clear hPa hDa
            refine lv_aload_n hx hb dX11_readRouter_141 rfl (lv_at hl 2 rfl) ?_
            refine va_get (D := (dC, dI)) (ci := 11) (v := .int (y297 8)) (C := RX11) (T := TX11) (N := 61) hx hb hts hin11 hown hK hP 7 rfl rfl 22 (Nat.le_of_ble_eq_true rfl) hw_1 (fun _ h9 => h9) rfl dX11_readRouter_142 ?_
            refine lv_if_ne (tgt := 168) hx hb dX11_readRouter_145 rfl (fun c317 => ?_) (fun c317 => ?_)
            · have b318 : iv 1 5 (y297 8) := iv_neLo c317 (hq298 8 : iv 0 5 (y297 8)) ivk_0 (by decide) (by decide)
              have hrr319 : RRd tT nN y297 (manT tT nN (rtr4 tT nN sS)) := (mq_b hrr306 c317) ▸ hrr306
              refine lv_aload_n hx hb dX11_readRouter_168 rfl (lv_at hl 2 rfl) ?_
              refine va_get (D := (dC, dI)) (ci := 11) (v := .ref (ra 2)) (C := RX11) (T := TX11) (N := 61) hx hb hts hin11 hown hK hP 7 rfl rfl 3 (Nat.le_of_ble_eq_true rfl) hw_0 (fun _ h9 => h9) rfl dX11_readRouter_169 ?_
              refine lv_iconst (v := 4) hx hb dX11_readRouter_172 ic_4 ?_
              refine lv_dup2_11 hx hb dX11_readRouter_173 rfl rfl ?_
              refine va_iald hx hb hK hP 0 1 rfl rfl (vp_in_nI (n := 4) (by decide) (by decide)) dX11_readRouter_174 ?_
              refine W.eq (g2 := F0 m 175 ls [.int (q_told 4), .int 4, .ref (ra 2)]) rfl ?_
              refine lv_iconst (v := 1) hx hb dX11_readRouter_175 ic_1 ?_
              refine lv_iadd hx hb dX11_readRouter_176 ?_
              have b320 : iv 1 12 ((q_told 4) + 1) := iv_add b2 ivk_1 (by decide) (by decide) (by decide) (by decide)
              refine va_iast hx hb hK hP hD hS 0 1 rfl rfl (vp_in_nI (n := 4) (by decide) (by decide)) dX11_readRouter_177 (fun H locs hPa hDa hS => ?_)
              clear hP hD
              have hP : va_P (dC, dI) vwCl [(ra 2, .inl (kI, 8, .inl (upd q_told 4 ((q_told 4) + 1)))), (ra 3, .inl (kI, 24, .inl (upd q_kind (12 + (q_told 4)).toNatClampNeg r18))), (ra 4, .inl (kI, 24, .inl (upd q_salt (12 + (q_told 4)).toNatClampNeg r283))), (ra 5, .inl (kI, 24, .inl (upd q_pace (12 + (q_told 4)).toNatClampNeg r295))), (ra 6, .inl (kI, 24, .inl (upd q_mute (12 + (q_told 4)).toNatClampNeg 0))), (ra 7, .inl (kI, 24, .inl (upd q_late (12 + (q_told 4)).toNatClampNeg 0))), (ra 1, .inl (kS, 4, .inr (.inr (.inr (.inr q_kinds))))), (m0, .inr (11, oX11 ra y297)), (ra 13, .inl (kI, 700, .inl q_tape))] H := hPa
              have hD : va_D A [(ra 2, .inl (kI, 8, .inl (upd q_told 4 ((q_told 4) + 1)))), (ra 3, .inl (kI, 24, .inl (upd q_kind (12 + (q_told 4)).toNatClampNeg r18))), (ra 4, .inl (kI, 24, .inl (upd q_salt (12 + (q_told 4)).toNatClampNeg r283))), (ra 5, .inl (kI, 24, .inl (upd q_pace (12 + (q_told 4)).toNatClampNeg r295))), (ra 6, .inl (kI, 24, .inl (upd q_mute (12 + (q_told 4)).toNatClampNeg 0))), (ra 7, .inl (kI, 24, .inl (upd q_late (12 + (q_told 4)).toNatClampNeg 0))), (ra 1, .inl (kS, 4, .inr (.inr (.inr (.inr q_kinds))))), (m0, .inr (11, oX11 ra y297)), (ra 13, .inl (kI, 700, .inl q_tape))] := hDa
              clear hPa hDa
              have hPD9 := cl_s (wc := [(m0, .inr (11, oX11 ra y297)), (ra 2, .inl (kI, 8, .inl (upd q_told 4 ((q_told 4) + 1)))), (ra 3, .inl (kI, 24, .inl (upd q_kind (12 + (q_told 4)).toNatClampNeg r18))), (ra 4, .inl (kI, 24, .inl (upd q_salt (12 + (q_told 4)).toNatClampNeg r283))), (ra 5, .inl (kI, 24, .inl (upd q_pace (12 + (q_told 4)).toNatClampNeg r295))), (ra 6, .inl (kI, 24, .inl (upd q_mute (12 + (q_told 4)).toNatClampNeg 0))), (ra 7, .inl (kI, 24, .inl (upd q_late (12 + (q_told 4)).toNatClampNeg 0))), (ra 13, .inl (kI, 700, .inl q_tape)), (ra 1, .inl (kS, 4, .inr (.inr (.inr (.inr q_kinds)))))]) hP hD [7, 0, 1, 2, 3, 4, 5, 8, 6] rfl (by decide +kernel)
              have hP9 := hPD9.1
              have hD9 := hPD9.2
              exact W.vret hx hb hr (fun t ht hW => ⟨⟨(), rfl, trivial, y297, upd q_told 4 ((q_told 4) + 1), upd q_kind (12 + (q_told 4)).toNatClampNeg r18, upd q_salt (12 + (q_told 4)).toNatClampNeg r283, upd q_pace (12 + (q_told 4)).toNatClampNeg r295, upd q_mute (12 + (q_told 4)).toNatClampNeg 0, upd q_late (12 + (q_told 4)).toNatClampNeg 0, hq298, (fI_u hq_told (k := 4) ((iv_w b320 (by decide) (by decide)))), (fI_u hq_salt (k := (12 + (q_told 4)).toNatClampNeg) (w284.1)), (show (x0 2).toInt ≤ (y297 2).toInt from by omega), (show y297 3 = x0 3 from hq300.trans (hq288.trans (hq275.trans (hq10)))), (show ∀ j : Nat, (j : Int) < (q_told 1).toInt → (q_from j).toInt < (q_to j).toInt from hLT), (show ∀ j : Nat, (j : Int) < (q_told 5).toInt → (q_from (20 + j)).toInt < (q_to (20 + j)).toInt from hLD), (show RRd tT nN y297 (rtrS tT nN sS (q_told 4)) from it_f (Q := RRd tT nN y297) c1 (hrr319)), fun w => absurd w c317, low_t (by decide), lw12_u (iv_w b2 (by decide) (by decide)), lw12_u (iv_w b2 (by decide) (by decide)), (show y297 1 = x0 1 from hq302.trans (hq290.trans (hq277.trans (hq13)))), (show y297 10 = x0 10 from hq303.trans (hq291.trans (hq278.trans (hq14)))), (show y297 11 = x0 11 from hq304.trans (hq292.trans (hq279.trans (hq15)))), (show y297 14 = x0 14 from hq305.trans (hq293.trans (hq280.trans (hq16)))), by rw [ht]; exact hP9, hD9⟩, hS.F ht⟩) hS.2.2 dX11_readRouter_178
            · have b321 : iv 0 0 (y297 8) := iv_eqL c317 ivk_0
              refine lv_aload_n hx hb dX11_readRouter_148 rfl (lv_at hl 2 rfl) ?_
              refine va_get (D := (dC, dI)) (ci := 11) (v := .ref (ra 6)) (C := RX11) (T := TX11) (N := 61) hx hb hts hin11 hown hK hP 7 rfl rfl 7 (Nat.le_of_ble_eq_true rfl) hw_6 (fun _ h9 => h9) rfl dX11_readRouter_149 ?_
              refine lv_iload_n hx hb dX11_readRouter_152 rfl (lv_at hl 1 rfl) ?_
              refine va_iald hx hb hK hP 4 1 rfl rfl (iv_in b17 (by decide) (by decide)) dX11_readRouter_153 ?_
              refine W.eq (g2 := F0 m 154 ls [.int 0]) (by rw [upd_eq]) ?_
              refine lv_aload_n hx hb dX11_readRouter_154 rfl (lv_at hl 2 rfl) ?_
              refine va_get (D := (dC, dI)) (ci := 11) (v := .ref (ra 7)) (C := RX11) (T := TX11) (N := 61) hx hb hts hin11 hown hK hP 7 rfl rfl 8 (Nat.le_of_ble_eq_true rfl) hw_7 (fun _ h9 => h9) rfl dX11_readRouter_155 ?_
              refine lv_iload_n hx hb dX11_readRouter_158 rfl (lv_at hl 1 rfl) ?_
              refine va_iald hx hb hK hP 5 1 rfl rfl (iv_in b17 (by decide) (by decide)) dX11_readRouter_159 ?_
              refine W.eq (g2 := F0 m 160 ls [.int 0, .int 0]) (by rw [upd_eq]) ?_
              refine lv_iadd hx hb dX11_readRouter_160 ?_
              refine lv_topi (fun z322 e323 => ?_)
              obtain rfl : z322 = (0 : Int32) := e323.trans (by decide)
              refine lv_if_le (tgt := 168) hx hb dX11_readRouter_161 rfl (fun _ => ?_) (fun c9 => absurd (by decide) c9)
              have hrr324 : RRd tT nN y297 (manT tT nN (rtr4 tT nN sS)) := (mq_0 hrr306 c317 c310 c315) ▸ hrr306
              refine lv_aload_n hx hb dX11_readRouter_168 rfl (lv_at hl 2 rfl) ?_
              refine va_get (D := (dC, dI)) (ci := 11) (v := .ref (ra 2)) (C := RX11) (T := TX11) (N := 61) hx hb hts hin11 hown hK hP 7 rfl rfl 3 (Nat.le_of_ble_eq_true rfl) hw_0 (fun _ h9 => h9) rfl dX11_readRouter_169 ?_
              refine lv_iconst (v := 4) hx hb dX11_readRouter_172 ic_4 ?_
              refine lv_dup2_11 hx hb dX11_readRouter_173 rfl rfl ?_
              refine va_iald hx hb hK hP 0 1 rfl rfl (vp_in_nI (n := 4) (by decide) (by decide)) dX11_readRouter_174 ?_
              refine W.eq (g2 := F0 m 175 ls [.int (q_told 4), .int 4, .ref (ra 2)]) rfl ?_
              refine lv_iconst (v := 1) hx hb dX11_readRouter_175 ic_1 ?_
              refine lv_iadd hx hb dX11_readRouter_176 ?_
              have b325 : iv 1 12 ((q_told 4) + 1) := iv_add b2 ivk_1 (by decide) (by decide) (by decide) (by decide)
              refine va_iast hx hb hK hP hD hS 0 1 rfl rfl (vp_in_nI (n := 4) (by decide) (by decide)) dX11_readRouter_177 (fun H locs hPa hDa hS => ?_)
              clear hP hD
              have hP : va_P (dC, dI) vwCl [(ra 2, .inl (kI, 8, .inl (upd q_told 4 ((q_told 4) + 1)))), (ra 3, .inl (kI, 24, .inl (upd q_kind (12 + (q_told 4)).toNatClampNeg r18))), (ra 4, .inl (kI, 24, .inl (upd q_salt (12 + (q_told 4)).toNatClampNeg r283))), (ra 5, .inl (kI, 24, .inl (upd q_pace (12 + (q_told 4)).toNatClampNeg r295))), (ra 6, .inl (kI, 24, .inl (upd q_mute (12 + (q_told 4)).toNatClampNeg 0))), (ra 7, .inl (kI, 24, .inl (upd q_late (12 + (q_told 4)).toNatClampNeg 0))), (ra 1, .inl (kS, 4, .inr (.inr (.inr (.inr q_kinds))))), (m0, .inr (11, oX11 ra y297)), (ra 13, .inl (kI, 700, .inl q_tape))] H := hPa
              have hD : va_D A [(ra 2, .inl (kI, 8, .inl (upd q_told 4 ((q_told 4) + 1)))), (ra 3, .inl (kI, 24, .inl (upd q_kind (12 + (q_told 4)).toNatClampNeg r18))), (ra 4, .inl (kI, 24, .inl (upd q_salt (12 + (q_told 4)).toNatClampNeg r283))), (ra 5, .inl (kI, 24, .inl (upd q_pace (12 + (q_told 4)).toNatClampNeg r295))), (ra 6, .inl (kI, 24, .inl (upd q_mute (12 + (q_told 4)).toNatClampNeg 0))), (ra 7, .inl (kI, 24, .inl (upd q_late (12 + (q_told 4)).toNatClampNeg 0))), (ra 1, .inl (kS, 4, .inr (.inr (.inr (.inr q_kinds))))), (m0, .inr (11, oX11 ra y297)), (ra 13, .inl (kI, 700, .inl q_tape))] := hDa
              clear hPa hDa
              have hPD9 := cl_s (wc := [(m0, .inr (11, oX11 ra y297)), (ra 2, .inl (kI, 8, .inl (upd q_told 4 ((q_told 4) + 1)))), (ra 3, .inl (kI, 24, .inl (upd q_kind (12 + (q_told 4)).toNatClampNeg r18))), (ra 4, .inl (kI, 24, .inl (upd q_salt (12 + (q_told 4)).toNatClampNeg r283))), (ra 5, .inl (kI, 24, .inl (upd q_pace (12 + (q_told 4)).toNatClampNeg r295))), (ra 6, .inl (kI, 24, .inl (upd q_mute (12 + (q_told 4)).toNatClampNeg 0))), (ra 7, .inl (kI, 24, .inl (upd q_late (12 + (q_told 4)).toNatClampNeg 0))), (ra 13, .inl (kI, 700, .inl q_tape)), (ra 1, .inl (kS, 4, .inr (.inr (.inr (.inr q_kinds)))))]) hP hD [7, 0, 1, 2, 3, 4, 5, 8, 6] rfl (by decide +kernel)
              have hP9 := hPD9.1
              have hD9 := hPD9.2
              exact W.vret hx hb hr (fun t ht hW => ⟨⟨(), rfl, trivial, y297, upd q_told 4 ((q_told 4) + 1), upd q_kind (12 + (q_told 4)).toNatClampNeg r18, upd q_salt (12 + (q_told 4)).toNatClampNeg r283, upd q_pace (12 + (q_told 4)).toNatClampNeg r295, upd q_mute (12 + (q_told 4)).toNatClampNeg 0, upd q_late (12 + (q_told 4)).toNatClampNeg 0, hq298, (fI_u hq_told (k := 4) ((iv_w b325 (by decide) (by decide)))), (fI_u hq_salt (k := (12 + (q_told 4)).toNatClampNeg) (w284.1)), (show (x0 2).toInt ≤ (y297 2).toInt from by omega), (show y297 3 = x0 3 from hq300.trans (hq288.trans (hq275.trans (hq10)))), (show ∀ j : Nat, (j : Int) < (q_told 1).toInt → (q_from j).toInt < (q_to j).toInt from hLT), (show ∀ j : Nat, (j : Int) < (q_told 5).toInt → (q_from (20 + j)).toInt < (q_to (20 + j)).toInt from hLD), (show RRd tT nN y297 (rtrS tT nN sS (q_told 4)) from it_f (Q := RRd tT nN y297) c1 (hrr324)), fun _ => absurd (ok_next (ok_num (ok_next (ok_num (ok_next (rr_ok hrr306 c317)))))) (fun w => ok_fail ((kq_n hwk c20).symm ▸ w)), low_t (by decide), lw12_u (iv_w b2 (by decide) (by decide)), lw12_u (iv_w b2 (by decide) (by decide)), (show y297 1 = x0 1 from hq302.trans (hq290.trans (hq277.trans (hq13)))), (show y297 10 = x0 10 from hq303.trans (hq291.trans (hq278.trans (hq14)))), (show y297 11 = x0 11 from hq304.trans (hq292.trans (hq279.trans (hq15)))), (show y297 14 = x0 14 from hq305.trans (hq293.trans (hq280.trans (hq16)))), by rw [ht]; exact hP9, hD9⟩, hS.F ht⟩) hS.2.2 dX11_readRouter_178
          · have b326 : iv 1 1 (wS tT 9 (rtr4 tT nN sS)) := iv_neLo c315 b314 ivk_0 (by decide) (by decide)
            refine lv_iconst (v := 1) hx hb dX11_readRouter_135 ic_1 ?_
            refine lv_goto (tgt := 140) hx hb dX11_readRouter_136 rfl ?_
            refine va_iast hx hb hK hP hD hS 5 1 rfl rfl (iv_in b17 (by decide) (by decide)) dX11_readRouter_140 (fun H locs hPa hDa hS => ?_)
            clear hP hD
            have hP : va_P (dC, dI) vwCl [(ra 2, .inl (kI, 8, .inl q_told)), (ra 3, .inl (kI, 24, .inl (upd q_kind (12 + (q_told 4)).toNatClampNeg r18))), (ra 4, .inl (kI, 24, .inl (upd q_salt (12 + (q_told 4)).toNatClampNeg r283))), (ra 5, .inl (kI, 24, .inl (upd q_pace (12 + (q_told 4)).toNatClampNeg r295))), (ra 6, .inl (kI, 24, .inl (upd q_mute (12 + (q_told 4)).toNatClampNeg 0))), (ra 7, .inl (kI, 24, .inl (upd q_late (12 + (q_told 4)).toNatClampNeg 1))), (ra 1, .inl (kS, 4, .inr (.inr (.inr (.inr q_kinds))))), (m0, .inr (11, oX11 ra y297)), (ra 13, .inl (kI, 700, .inl q_tape))] H := hPa
            have hD : va_D A [(ra 2, .inl (kI, 8, .inl q_told)), (ra 3, .inl (kI, 24, .inl (upd q_kind (12 + (q_told 4)).toNatClampNeg r18))), (ra 4, .inl (kI, 24, .inl (upd q_salt (12 + (q_told 4)).toNatClampNeg r283))), (ra 5, .inl (kI, 24, .inl (upd q_pace (12 + (q_told 4)).toNatClampNeg r295))), (ra 6, .inl (kI, 24, .inl (upd q_mute (12 + (q_told 4)).toNatClampNeg 0))), (ra 7, .inl (kI, 24, .inl (upd q_late (12 + (q_told 4)).toNatClampNeg 1))), (ra 1, .inl (kS, 4, .inr (.inr (.inr (.inr q_kinds))))), (m0, .inr (11, oX11 ra y297)), (ra 13, .inl (kI, 700, .inl q_tape))] := hDa
            clear hPa hDa
            refine lv_aload_n hx hb dX11_readRouter_141 rfl (lv_at hl 2 rfl) ?_
            refine va_get (D := (dC, dI)) (ci := 11) (v := .int (y297 8)) (C := RX11) (T := TX11) (N := 61) hx hb hts hin11 hown hK hP 7 rfl rfl 22 (Nat.le_of_ble_eq_true rfl) hw_1 (fun _ h9 => h9) rfl dX11_readRouter_142 ?_
            refine lv_if_ne (tgt := 168) hx hb dX11_readRouter_145 rfl (fun c327 => ?_) (fun c327 => ?_)
            · have b328 : iv 1 5 (y297 8) := iv_neLo c327 (hq298 8 : iv 0 5 (y297 8)) ivk_0 (by decide) (by decide)
              have hrr329 : RRd tT nN y297 (manT tT nN (rtr4 tT nN sS)) := (mq_b hrr306 c327) ▸ hrr306
              refine lv_aload_n hx hb dX11_readRouter_168 rfl (lv_at hl 2 rfl) ?_
              refine va_get (D := (dC, dI)) (ci := 11) (v := .ref (ra 2)) (C := RX11) (T := TX11) (N := 61) hx hb hts hin11 hown hK hP 7 rfl rfl 3 (Nat.le_of_ble_eq_true rfl) hw_0 (fun _ h9 => h9) rfl dX11_readRouter_169 ?_
              refine lv_iconst (v := 4) hx hb dX11_readRouter_172 ic_4 ?_
              refine lv_dup2_11 hx hb dX11_readRouter_173 rfl rfl ?_
              refine va_iald hx hb hK hP 0 1 rfl rfl (vp_in_nI (n := 4) (by decide) (by decide)) dX11_readRouter_174 ?_
              refine W.eq (g2 := F0 m 175 ls [.int (q_told 4), .int 4, .ref (ra 2)]) rfl ?_
              refine lv_iconst (v := 1) hx hb dX11_readRouter_175 ic_1 ?_
              refine lv_iadd hx hb dX11_readRouter_176 ?_
              have b330 : iv 1 12 ((q_told 4) + 1) := iv_add b2 ivk_1 (by decide) (by decide) (by decide) (by decide)
              refine va_iast hx hb hK hP hD hS 0 1 rfl rfl (vp_in_nI (n := 4) (by decide) (by decide)) dX11_readRouter_177 (fun H locs hPa hDa hS => ?_)
              clear hP hD
              have hP : va_P (dC, dI) vwCl [(ra 2, .inl (kI, 8, .inl (upd q_told 4 ((q_told 4) + 1)))), (ra 3, .inl (kI, 24, .inl (upd q_kind (12 + (q_told 4)).toNatClampNeg r18))), (ra 4, .inl (kI, 24, .inl (upd q_salt (12 + (q_told 4)).toNatClampNeg r283))), (ra 5, .inl (kI, 24, .inl (upd q_pace (12 + (q_told 4)).toNatClampNeg r295))), (ra 6, .inl (kI, 24, .inl (upd q_mute (12 + (q_told 4)).toNatClampNeg 0))), (ra 7, .inl (kI, 24, .inl (upd q_late (12 + (q_told 4)).toNatClampNeg 1))), (ra 1, .inl (kS, 4, .inr (.inr (.inr (.inr q_kinds))))), (m0, .inr (11, oX11 ra y297)), (ra 13, .inl (kI, 700, .inl q_tape))] H := hPa
              have hD : va_D A [(ra 2, .inl (kI, 8, .inl (upd q_told 4 ((q_told 4) + 1)))), (ra 3, .inl (kI, 24, .inl (upd q_kind (12 + (q_told 4)).toNatClampNeg r18))), (ra 4, .inl (kI, 24, .inl (upd q_salt (12 + (q_told 4)).toNatClampNeg r283))), (ra 5, .inl (kI, 24, .inl (upd q_pace (12 + (q_told 4)).toNatClampNeg r295))), (ra 6, .inl (kI, 24, .inl (upd q_mute (12 + (q_told 4)).toNatClampNeg 0))), (ra 7, .inl (kI, 24, .inl (upd q_late (12 + (q_told 4)).toNatClampNeg 1))), (ra 1, .inl (kS, 4, .inr (.inr (.inr (.inr q_kinds))))), (m0, .inr (11, oX11 ra y297)), (ra 13, .inl (kI, 700, .inl q_tape))] := hDa
              clear hPa hDa
              have hPD9 := cl_s (wc := [(m0, .inr (11, oX11 ra y297)), (ra 2, .inl (kI, 8, .inl (upd q_told 4 ((q_told 4) + 1)))), (ra 3, .inl (kI, 24, .inl (upd q_kind (12 + (q_told 4)).toNatClampNeg r18))), (ra 4, .inl (kI, 24, .inl (upd q_salt (12 + (q_told 4)).toNatClampNeg r283))), (ra 5, .inl (kI, 24, .inl (upd q_pace (12 + (q_told 4)).toNatClampNeg r295))), (ra 6, .inl (kI, 24, .inl (upd q_mute (12 + (q_told 4)).toNatClampNeg 0))), (ra 7, .inl (kI, 24, .inl (upd q_late (12 + (q_told 4)).toNatClampNeg 1))), (ra 13, .inl (kI, 700, .inl q_tape)), (ra 1, .inl (kS, 4, .inr (.inr (.inr (.inr q_kinds)))))]) hP hD [7, 0, 1, 2, 3, 4, 5, 8, 6] rfl (by decide +kernel)
              have hP9 := hPD9.1
              have hD9 := hPD9.2
              exact W.vret hx hb hr (fun t ht hW => ⟨⟨(), rfl, trivial, y297, upd q_told 4 ((q_told 4) + 1), upd q_kind (12 + (q_told 4)).toNatClampNeg r18, upd q_salt (12 + (q_told 4)).toNatClampNeg r283, upd q_pace (12 + (q_told 4)).toNatClampNeg r295, upd q_mute (12 + (q_told 4)).toNatClampNeg 0, upd q_late (12 + (q_told 4)).toNatClampNeg 1, hq298, (fI_u hq_told (k := 4) ((iv_w b330 (by decide) (by decide)))), (fI_u hq_salt (k := (12 + (q_told 4)).toNatClampNeg) (w284.1)), (show (x0 2).toInt ≤ (y297 2).toInt from by omega), (show y297 3 = x0 3 from hq300.trans (hq288.trans (hq275.trans (hq10)))), (show ∀ j : Nat, (j : Int) < (q_told 1).toInt → (q_from j).toInt < (q_to j).toInt from hLT), (show ∀ j : Nat, (j : Int) < (q_told 5).toInt → (q_from (20 + j)).toInt < (q_to (20 + j)).toInt from hLD), (show RRd tT nN y297 (rtrS tT nN sS (q_told 4)) from it_f (Q := RRd tT nN y297) c1 (hrr329)), fun w => absurd w c327, low_t (by decide), lw12_u (iv_w b2 (by decide) (by decide)), lw12_u (iv_w b2 (by decide) (by decide)), (show y297 1 = x0 1 from hq302.trans (hq290.trans (hq277.trans (hq13)))), (show y297 10 = x0 10 from hq303.trans (hq291.trans (hq278.trans (hq14)))), (show y297 11 = x0 11 from hq304.trans (hq292.trans (hq279.trans (hq15)))), (show y297 14 = x0 14 from hq305.trans (hq293.trans (hq280.trans (hq16)))), by rw [ht]; exact hP9, hD9⟩, hS.F ht⟩) hS.2.2 dX11_readRouter_178
            · have b331 : iv 0 0 (y297 8) := iv_eqL c327 ivk_0
              refine lv_aload_n hx hb dX11_readRouter_148 rfl (lv_at hl 2 rfl) ?_
              refine va_get (D := (dC, dI)) (ci := 11) (v := .ref (ra 6)) (C := RX11) (T := TX11) (N := 61) hx hb hts hin11 hown hK hP 7 rfl rfl 7 (Nat.le_of_ble_eq_true rfl) hw_6 (fun _ h9 => h9) rfl dX11_readRouter_149 ?_
              refine lv_iload_n hx hb dX11_readRouter_152 rfl (lv_at hl 1 rfl) ?_
              refine va_iald hx hb hK hP 4 1 rfl rfl (iv_in b17 (by decide) (by decide)) dX11_readRouter_153 ?_
              refine W.eq (g2 := F0 m 154 ls [.int 0]) (by rw [upd_eq]) ?_
              refine lv_aload_n hx hb dX11_readRouter_154 rfl (lv_at hl 2 rfl) ?_
              refine va_get (D := (dC, dI)) (ci := 11) (v := .ref (ra 7)) (C := RX11) (T := TX11) (N := 61) hx hb hts hin11 hown hK hP 7 rfl rfl 8 (Nat.le_of_ble_eq_true rfl) hw_7 (fun _ h9 => h9) rfl dX11_readRouter_155 ?_
              refine lv_iload_n hx hb dX11_readRouter_158 rfl (lv_at hl 1 rfl) ?_
              refine va_iald hx hb hK hP 5 1 rfl rfl (iv_in b17 (by decide) (by decide)) dX11_readRouter_159 ?_
              refine W.eq (g2 := F0 m 160 ls [.int 1, .int 0]) (by rw [upd_eq]) ?_
              refine lv_iadd hx hb dX11_readRouter_160 ?_
              refine lv_topi (fun z332 e333 => ?_)
              obtain rfl : z332 = (1 : Int32) := e333.trans (by decide)
              refine lv_if_le (tgt := 168) hx hb dX11_readRouter_161 rfl (fun c9 => absurd c9 (by decide)) (fun _ => ?_)
              refine lv_aload_n hx hb dX11_readRouter_164 rfl (lv_at hl 2 rfl) ?_
              obtain ⟨hPc, hDc, hFc, hJn⟩ := cl_a (wc := [(m0, .inr (11, oX11 ra y297)), (ra 13, .inl (kI, 700, .inl q_tape))]) (wr := [(ra 2, .inl (kI, 8, .inl q_told)), (ra 3, .inl (kI, 24, .inl (upd q_kind (12 + (q_told 4)).toNatClampNeg r18))), (ra 4, .inl (kI, 24, .inl (upd q_salt (12 + (q_told 4)).toNatClampNeg r283))), (ra 5, .inl (kI, 24, .inl (upd q_pace (12 + (q_told 4)).toNatClampNeg r295))), (ra 6, .inl (kI, 24, .inl (upd q_mute (12 + (q_told 4)).toNatClampNeg 0))), (ra 7, .inl (kI, 24, .inl (upd q_late (12 + (q_told 4)).toNatClampNeg 1))), (ra 1, .inl (kS, 4, .inr (.inr (.inr (.inr q_kinds)))))]) hP hD hS hA [7, 8] [0, 1, 2, 3, 4, 5, 6] rfl rfl (by decide +kernel)
              refine va_callv (va_runV (As := []) (rest := []) ⟨hx, hb, hml, hown, hts⟩ (s11_stepOn l dC dI kB kI kJ kZ kC kS H.size m0 ra y297 q_tape tT nN (nextT tT nN (rtr4 tT nN sS)) (hq298) (hq_tape) (hrr306.2) (stp_of hrr306) (hTQ)) (cwV 0 hts gX11_readRouter_X11_stepOn rfl rfl rfl (by decide +kernel) ⟨Nat.le_of_ble_eq_true rfl, Nat.le_of_ble_eq_true rfl⟩) ⟨fun a U g mk q => by obtain ⟨q0, q1, qP, qE, qD⟩ := q; exact ⟨q0, q1, qP, kE_call qE, qD⟩, va_recv hK hP (ci := 11) (q0 := 7) rfl rfl, fun U hU hW => ⟨rfl, by rw [hU], by rw [hU]; exact hPc, kE_warm hW hE, hDc.weaken (fun _ _ _ _ => trivial)⟩⟩ rfl rfl hl.1 rfl (lv_room (Nat.le_of_ble_eq_true rfl)) dX11_readRouter_165 ⟨Nat.le_of_ble_eq_true rfl, Nat.le_of_ble_eq_true rfl⟩) hS (fun q _ h => hFc q h) hFc (fun u t H locs ht hvm w335 hB hz1 hk1 hS => ?_)
              obtain ⟨y336, hq337, hq338, hq339, hq340, hq341, hq342, hq343, hq344, hq345, hP1, hD1⟩ := hB
              try dsimp only at w335
              obtain ⟨hPa, hDa⟩ := hJn (w1 := [(m0, .inr (11, oX11 ra y336)), (ra 13, .inl (kI, 700, .inl q_tape))]) hk1 ht hP1 hD1
              clear hP hD hPc hDc hFc hJn hP1 hD1 hk1
              have hP : va_P (dC, dI) vwCl [(ra 2, .inl (kI, 8, .inl q_told)), (ra 3, .inl (kI, 24, .inl (upd q_kind (12 + (q_told 4)).toNatClampNeg r18))), (ra 4, .inl (kI, 24, .inl (upd q_salt (12 + (q_told 4)).toNatClampNeg r283))), (ra 5, .inl (kI, 24, .inl (upd q_pace (12 + (q_told 4)).toNatClampNeg r295))), (ra 6, .inl (kI, 24, .inl (upd q_mute (12 + (q_told 4)).toNatClampNeg 0))), (ra 7, .inl (kI, 24, .inl (upd q_late (12 + (q_told 4)).toNatClampNeg 1))), (ra 1, .inl (kS, 4, .inr (.inr (.inr (.inr q_kinds))))), (m0, .inr (11, oX11 ra y336)), (ra 13, .inl (kI, 700, .inl q_tape))] H := hPa
              have hD : va_D A [(ra 2, .inl (kI, 8, .inl q_told)), (ra 3, .inl (kI, 24, .inl (upd q_kind (12 + (q_told 4)).toNatClampNeg r18))), (ra 4, .inl (kI, 24, .inl (upd q_salt (12 + (q_told 4)).toNatClampNeg r283))), (ra 5, .inl (kI, 24, .inl (upd q_pace (12 + (q_told 4)).toNatClampNeg r295))), (ra 6, .inl (kI, 24, .inl (upd q_mute (12 + (q_told 4)).toNatClampNeg 0))), (ra 7, .inl (kI, 24, .inl (upd q_late (12 + (q_told 4)).toNatClampNeg 1))), (ra 1, .inl (kS, 4, .inr (.inr (.inr (.inr q_kinds))))), (m0, .inr (11, oX11 ra y336)), (ra 13, .inl (kI, 700, .inl q_tape))] := hDa
              clear hPa hDa
              refine W.widen (k := 0) (n := 0) (Nat.le_of_ble_eq_true rfl) (Nat.le_of_ble_eq_true rfl) ?_
              have hrr346 : RRd tT nN y336 (manT tT nN (rtr4 tT nN sS)) := (mq_s hrr306 c327 (Or.inr c315)) ▸ hq341
              refine lv_aload_n hx hb dX11_readRouter_168 rfl (lv_at hl 2 rfl) ?_
              refine va_get (D := (dC, dI)) (ci := 11) (v := .ref (ra 2)) (C := RX11) (T := TX11) (N := 61) hx hb hts hin11 hown hK hP 7 rfl rfl 3 (Nat.le_of_ble_eq_true rfl) hw_0 (fun _ h9 => h9) rfl dX11_readRouter_169 ?_
              refine lv_iconst (v := 4) hx hb dX11_readRouter_172 ic_4 ?_
              refine lv_dup2_11 hx hb dX11_readRouter_173 rfl rfl ?_
              refine va_iald hx hb hK hP 0 1 rfl rfl (vp_in_nI (n := 4) (by decide) (by decide)) dX11_readRouter_174 ?_
              refine W.eq (g2 := F0 m 175 ls [.int (q_told 4), .int 4, .ref (ra 2)]) rfl ?_
              refine lv_iconst (v := 1) hx hb dX11_readRouter_175 ic_1 ?_
              refine lv_iadd hx hb dX11_readRouter_176 ?_
              have b347 : iv 1 12 ((q_told 4) + 1) := iv_add b2 ivk_1 (by decide) (by decide) (by decide) (by decide)
              refine va_iast hx hb hK hP hD hS 0 1 rfl rfl (vp_in_nI (n := 4) (by decide) (by decide)) dX11_readRouter_177 (fun H locs hPa hDa hS => ?_)
              clear hP hD
              have hP : va_P (dC, dI) vwCl [(ra 2, .inl (kI, 8, .inl (upd q_told 4 ((q_told 4) + 1)))), (ra 3, .inl (kI, 24, .inl (upd q_kind (12 + (q_told 4)).toNatClampNeg r18))), (ra 4, .inl (kI, 24, .inl (upd q_salt (12 + (q_told 4)).toNatClampNeg r283))), (ra 5, .inl (kI, 24, .inl (upd q_pace (12 + (q_told 4)).toNatClampNeg r295))), (ra 6, .inl (kI, 24, .inl (upd q_mute (12 + (q_told 4)).toNatClampNeg 0))), (ra 7, .inl (kI, 24, .inl (upd q_late (12 + (q_told 4)).toNatClampNeg 1))), (ra 1, .inl (kS, 4, .inr (.inr (.inr (.inr q_kinds))))), (m0, .inr (11, oX11 ra y336)), (ra 13, .inl (kI, 700, .inl q_tape))] H := hPa
              have hD : va_D A [(ra 2, .inl (kI, 8, .inl (upd q_told 4 ((q_told 4) + 1)))), (ra 3, .inl (kI, 24, .inl (upd q_kind (12 + (q_told 4)).toNatClampNeg r18))), (ra 4, .inl (kI, 24, .inl (upd q_salt (12 + (q_told 4)).toNatClampNeg r283))), (ra 5, .inl (kI, 24, .inl (upd q_pace (12 + (q_told 4)).toNatClampNeg r295))), (ra 6, .inl (kI, 24, .inl (upd q_mute (12 + (q_told 4)).toNatClampNeg 0))), (ra 7, .inl (kI, 24, .inl (upd q_late (12 + (q_told 4)).toNatClampNeg 1))), (ra 1, .inl (kS, 4, .inr (.inr (.inr (.inr q_kinds))))), (m0, .inr (11, oX11 ra y336)), (ra 13, .inl (kI, 700, .inl q_tape))] := hDa
              clear hPa hDa
              have hPD9 := cl_s (wc := [(m0, .inr (11, oX11 ra y336)), (ra 2, .inl (kI, 8, .inl (upd q_told 4 ((q_told 4) + 1)))), (ra 3, .inl (kI, 24, .inl (upd q_kind (12 + (q_told 4)).toNatClampNeg r18))), (ra 4, .inl (kI, 24, .inl (upd q_salt (12 + (q_told 4)).toNatClampNeg r283))), (ra 5, .inl (kI, 24, .inl (upd q_pace (12 + (q_told 4)).toNatClampNeg r295))), (ra 6, .inl (kI, 24, .inl (upd q_mute (12 + (q_told 4)).toNatClampNeg 0))), (ra 7, .inl (kI, 24, .inl (upd q_late (12 + (q_told 4)).toNatClampNeg 1))), (ra 13, .inl (kI, 700, .inl q_tape)), (ra 1, .inl (kS, 4, .inr (.inr (.inr (.inr q_kinds)))))]) hP hD [7, 0, 1, 2, 3, 4, 5, 8, 6] rfl (by decide +kernel)
              have hP9 := hPD9.1
              have hD9 := hPD9.2
              exact W.vret hx hb hr (fun t ht hW => ⟨⟨(), rfl, trivial, y336, upd q_told 4 ((q_told 4) + 1), upd q_kind (12 + (q_told 4)).toNatClampNeg r18, upd q_salt (12 + (q_told 4)).toNatClampNeg r283, upd q_pace (12 + (q_told 4)).toNatClampNeg r295, upd q_mute (12 + (q_told 4)).toNatClampNeg 0, upd q_late (12 + (q_told 4)).toNatClampNeg 1, hq337, (fI_u hq_told (k := 4) ((iv_w b347 (by decide) (by decide)))), (fI_u hq_salt (k := (12 + (q_told 4)).toNatClampNeg) (w284.1)), (show (x0 2).toInt ≤ (y336 2).toInt from by omega), (show y336 3 = x0 3 from hq339.trans (hq300.trans (hq288.trans (hq275.trans (hq10))))), (show ∀ j : Nat, (j : Int) < (q_told 1).toInt → (q_from j).toInt < (q_to j).toInt from hLT), (show ∀ j : Nat, (j : Int) < (q_told 5).toInt → (q_from (20 + j)).toInt < (q_to (20 + j)).toInt from hLD), (show RRd tT nN y336 (rtrS tT nN sS (q_told 4)) from it_f (Q := RRd tT nN y336) c1 (hrr346)), fun _ => absurd (ok_next (ok_num (ok_next (ok_num (ok_next (rr_ok hrr306 c327)))))) (fun w => ok_fail ((kq_n hwk c20).symm ▸ w)), low_t (by decide), lw12_u (iv_w b2 (by decide) (by decide)), lw12_u (iv_w b2 (by decide) (by decide)), (show y336 1 = x0 1 from hq342.trans (hq302.trans (hq290.trans (hq277.trans (hq13))))), (show y336 10 = x0 10 from hq343.trans (hq303.trans (hq291.trans (hq278.trans (hq14))))), (show y336 11 = x0 11 from hq344.trans (hq304.trans (hq292.trans (hq279.trans (hq15))))), (show y336 14 = x0 14 from hq345.trans (hq305.trans (hq293.trans (hq280.trans (hq16))))), by rw [ht]; exact hP9, hD9⟩, hS.F ht⟩) hS.2.2 dX11_readRouter_178
        · have b348 : iv 1 1 (wS tT 8 (rtr4 tT nN sS)) := iv_neLo c310 b309 ivk_0 (by decide) (by decide)
          refine lv_iconst (v := 1) hx hb dX11_readRouter_115 ic_1 ?_
          refine lv_goto (tgt := 120) hx hb dX11_readRouter_116 rfl ?_
          refine va_iast hx hb hK hP hD hS 4 1 rfl rfl (iv_in b17 (by decide) (by decide)) dX11_readRouter_120 (fun H locs hPa hDa hS => ?_)
          clear hP hD
          have hP : va_P (dC, dI) vwCl [(ra 2, .inl (kI, 8, .inl q_told)), (ra 3, .inl (kI, 24, .inl (upd q_kind (12 + (q_told 4)).toNatClampNeg r18))), (ra 4, .inl (kI, 24, .inl (upd q_salt (12 + (q_told 4)).toNatClampNeg r283))), (ra 5, .inl (kI, 24, .inl (upd q_pace (12 + (q_told 4)).toNatClampNeg r295))), (ra 6, .inl (kI, 24, .inl (upd q_mute (12 + (q_told 4)).toNatClampNeg 1))), (ra 7, .inl (kI, 24, .inl q_late)), (ra 1, .inl (kS, 4, .inr (.inr (.inr (.inr q_kinds))))), (m0, .inr (11, oX11 ra y297)), (ra 13, .inl (kI, 700, .inl q_tape))] H := hPa
          have hD : va_D A [(ra 2, .inl (kI, 8, .inl q_told)), (ra 3, .inl (kI, 24, .inl (upd q_kind (12 + (q_told 4)).toNatClampNeg r18))), (ra 4, .inl (kI, 24, .inl (upd q_salt (12 + (q_told 4)).toNatClampNeg r283))), (ra 5, .inl (kI, 24, .inl (upd q_pace (12 + (q_told 4)).toNatClampNeg r295))), (ra 6, .inl (kI, 24, .inl (upd q_mute (12 + (q_told 4)).toNatClampNeg 1))), (ra 7, .inl (kI, 24, .inl q_late)), (ra 1, .inl (kS, 4, .inr (.inr (.inr (.inr q_kinds))))), (m0, .inr (11, oX11 ra y297)), (ra 13, .inl (kI, 700, .inl q_tape))] := hDa
          clear hPa hDa
          refine lv_aload_n hx hb dX11_readRouter_121 rfl (lv_at hl 2 rfl) ?_
          refine va_get (D := (dC, dI)) (ci := 11) (v := .ref (ra 7)) (C := RX11) (T := TX11) (N := 61) hx hb hts hin11 hown hK hP 7 rfl rfl 8 (Nat.le_of_ble_eq_true rfl) hw_7 (fun _ h9 => h9) rfl dX11_readRouter_122 ?_
          refine lv_iload_n hx hb dX11_readRouter_125 rfl (lv_at hl 1 rfl) ?_
          refine lv_aload_n hx hb dX11_readRouter_126 rfl (lv_at hl 2 rfl) ?_
          refine va_ldcS hx hb hown hKL.2.2.2.2.2.2.2.2.2.2.2.2.2.2.2.2.2.2.2.2.2.2 dX11_readRouter_127 ?_
          obtain ⟨hPc, hDc, hFc, hJn⟩ := cl_a (wc := [(m0, .inr (11, oX11 ra y297)), (ra 13, .inl (kI, 700, .inl q_tape))]) (wr := [(ra 2, .inl (kI, 8, .inl q_told)), (ra 3, .inl (kI, 24, .inl (upd q_kind (12 + (q_told 4)).toNatClampNeg r18))), (ra 4, .inl (kI, 24, .inl (upd q_salt (12 + (q_told 4)).toNatClampNeg r283))), (ra 5, .inl (kI, 24, .inl (upd q_pace (12 + (q_told 4)).toNatClampNeg r295))), (ra 6, .inl (kI, 24, .inl (upd q_mute (12 + (q_told 4)).toNatClampNeg 1))), (ra 7, .inl (kI, 24, .inl q_late)), (ra 1, .inl (kS, 4, .inr (.inr (.inr (.inr q_kinds)))))]) hP hD hS hA [7, 8] [0, 1, 2, 3, 4, 5, 6] rfl rfl (by decide +kernel)
          refine va_calli (va_runV (As := [.ref (adK 9)]) (rest := [.int (12 + (q_told 4)), .ref (ra 7)]) ⟨hx, hb, hml, hown, hts⟩ (s11_is l dC dI kB kI kJ kZ kC kS H.size adK adV m0 ra y297 q_tape 9 tT nN (rtr4 tT nN sS) (hq298) (hq_tape) ((by decide)) (hrr306) (hTQ)) (cwV 1 hts gX11_readRouter_X11_is rfl rfl rfl (by decide +kernel) ⟨Nat.le_of_ble_eq_true rfl, Nat.le_of_ble_eq_true rfl⟩) ⟨fun a U g mk q => by obtain ⟨q0, q1, qP, qE, qD, qL⟩ := q; exact ⟨q0, q1, qP, kE_call qE, qD, kL_call qL⟩, va_recv hK hP (ci := 11) (q0 := 7) rfl rfl, fun U hU hW => ⟨rfl, by rw [hU], by rw [hU]; exact hPc, kE_warm hW hE, hDc.weaken (fun _ _ _ _ => trivial), kL_at hKL hS hFc hW hU⟩⟩ rfl rfl hl.1 rfl (lv_room (Nat.le_of_ble_eq_true rfl)) dX11_readRouter_129 ⟨Nat.le_of_ble_eq_true rfl, Nat.le_of_ble_eq_true rfl⟩) hS (fun q _ h => hFc q h) hFc (fun r349 u t H locs ht hvm w350 hB hz1 hk1 hS => ?_)
          obtain ⟨hP1, hD1⟩ := hB
          try dsimp only at w350
          obtain ⟨hPa, hDa⟩ := hJn (w1 := [(m0, .inr (11, oX11 ra y297)), (ra 13, .inl (kI, 700, .inl q_tape))]) hk1 ht hP1 hD1
          clear hP hD hPc hDc hFc hJn hP1 hD1 hk1
          have hP : va_P (dC, dI) vwCl [(ra 2, .inl (kI, 8, .inl q_told)), (ra 3, .inl (kI, 24, .inl (upd q_kind (12 + (q_told 4)).toNatClampNeg r18))), (ra 4, .inl (kI, 24, .inl (upd q_salt (12 + (q_told 4)).toNatClampNeg r283))), (ra 5, .inl (kI, 24, .inl (upd q_pace (12 + (q_told 4)).toNatClampNeg r295))), (ra 6, .inl (kI, 24, .inl (upd q_mute (12 + (q_told 4)).toNatClampNeg 1))), (ra 7, .inl (kI, 24, .inl q_late)), (ra 1, .inl (kS, 4, .inr (.inr (.inr (.inr q_kinds))))), (m0, .inr (11, oX11 ra y297)), (ra 13, .inl (kI, 700, .inl q_tape))] H := hPa
          have hD : va_D A [(ra 2, .inl (kI, 8, .inl q_told)), (ra 3, .inl (kI, 24, .inl (upd q_kind (12 + (q_told 4)).toNatClampNeg r18))), (ra 4, .inl (kI, 24, .inl (upd q_salt (12 + (q_told 4)).toNatClampNeg r283))), (ra 5, .inl (kI, 24, .inl (upd q_pace (12 + (q_told 4)).toNatClampNeg r295))), (ra 6, .inl (kI, 24, .inl (upd q_mute (12 + (q_told 4)).toNatClampNeg 1))), (ra 7, .inl (kI, 24, .inl q_late)), (ra 1, .inl (kS, 4, .inr (.inr (.inr (.inr q_kinds))))), (m0, .inr (11, oX11 ra y297)), (ra 13, .inl (kI, 700, .inl q_tape))] := hDa
          clear hPa hDa
          refine W.widen (k := 0) (n := 0) (Nat.le_of_ble_eq_true rfl) (Nat.le_of_ble_eq_true rfl) ?_
          obtain ⟨w350, b351⟩ := w350
          subst w350
          refine lv_if_eq (tgt := 139) hx hb dX11_readRouter_132 rfl (fun c352 => ?_) (fun c352 => ?_)
          · have b353 : iv 0 0 (wS tT 9 (rtr4 tT nN sS)) := iv_eqL c352 ivk_0
            refine lv_iconst (v := 0) hx hb dX11_readRouter_139 ic_0 ?_
            refine va_iast hx hb hK hP hD hS 5 1 rfl rfl (iv_in b17 (by decide) (by decide)) dX11_readRouter_140 (fun H locs hPa hDa hS => ?_)
            clear hP hD
            have hP : va_P (dC, dI) vwCl [(ra 2, .inl (kI, 8, .inl q_told)), (ra 3, .inl (kI, 24, .inl (upd q_kind (12 + (q_told 4)).toNatClampNeg r18))), (ra 4, .inl (kI, 24, .inl (upd q_salt (12 + (q_told 4)).toNatClampNeg r283))), (ra 5, .inl (kI, 24, .inl (upd q_pace (12 + (q_told 4)).toNatClampNeg r295))), (ra 6, .inl (kI, 24, .inl (upd q_mute (12 + (q_told 4)).toNatClampNeg 1))), (ra 7, .inl (kI, 24, .inl (upd q_late (12 + (q_told 4)).toNatClampNeg 0))), (ra 1, .inl (kS, 4, .inr (.inr (.inr (.inr q_kinds))))), (m0, .inr (11, oX11 ra y297)), (ra 13, .inl (kI, 700, .inl q_tape))] H := hPa
            have hD : va_D A [(ra 2, .inl (kI, 8, .inl q_told)), (ra 3, .inl (kI, 24, .inl (upd q_kind (12 + (q_told 4)).toNatClampNeg r18))), (ra 4, .inl (kI, 24, .inl (upd q_salt (12 + (q_told 4)).toNatClampNeg r283))), (ra 5, .inl (kI, 24, .inl (upd q_pace (12 + (q_told 4)).toNatClampNeg r295))), (ra 6, .inl (kI, 24, .inl (upd q_mute (12 + (q_told 4)).toNatClampNeg 1))), (ra 7, .inl (kI, 24, .inl (upd q_late (12 + (q_told 4)).toNatClampNeg 0))), (ra 1, .inl (kS, 4, .inr (.inr (.inr (.inr q_kinds))))), (m0, .inr (11, oX11 ra y297)), (ra 13, .inl (kI, 700, .inl q_tape))] := hDa
            clear hPa hDa
            refine lv_aload_n hx hb dX11_readRouter_141 rfl (lv_at hl 2 rfl) ?_
            refine va_get (D := (dC, dI)) (ci := 11) (v := .int (y297 8)) (C := RX11) (T := TX11) (N := 61) hx hb hts hin11 hown hK hP 7 rfl rfl 22 (Nat.le_of_ble_eq_true rfl) hw_1 (fun _ h9 => h9) rfl dX11_readRouter_142 ?_
            refine lv_if_ne (tgt := 168) hx hb dX11_readRouter_145 rfl (fun c354 => ?_) (fun c354 => ?_)
            · have b355 : iv 1 5 (y297 8) := iv_neLo c354 (hq298 8 : iv 0 5 (y297 8)) ivk_0 (by decide) (by decide)
              have hrr356 : RRd tT nN y297 (manT tT nN (rtr4 tT nN sS)) := (mq_b hrr306 c354) ▸ hrr306
              refine lv_aload_n hx hb dX11_readRouter_168 rfl (lv_at hl 2 rfl) ?_
              refine va_get (D := (dC, dI)) (ci := 11) (v := .ref (ra 2)) (C := RX11) (T := TX11) (N := 61) hx hb hts hin11 hown hK hP 7 rfl rfl 3 (Nat.le_of_ble_eq_true rfl) hw_0 (fun _ h9 => h9) rfl dX11_readRouter_169 ?_
              refine lv_iconst (v := 4) hx hb dX11_readRouter_172 ic_4 ?_
              refine lv_dup2_11 hx hb dX11_readRouter_173 rfl rfl ?_
              refine va_iald hx hb hK hP 0 1 rfl rfl (vp_in_nI (n := 4) (by decide) (by decide)) dX11_readRouter_174 ?_
              refine W.eq (g2 := F0 m 175 ls [.int (q_told 4), .int 4, .ref (ra 2)]) rfl ?_
              refine lv_iconst (v := 1) hx hb dX11_readRouter_175 ic_1 ?_
              refine lv_iadd hx hb dX11_readRouter_176 ?_
              have b357 : iv 1 12 ((q_told 4) + 1) := iv_add b2 ivk_1 (by decide) (by decide) (by decide) (by decide)
              refine va_iast hx hb hK hP hD hS 0 1 rfl rfl (vp_in_nI (n := 4) (by decide) (by decide)) dX11_readRouter_177 (fun H locs hPa hDa hS => ?_)
              clear hP hD
              have hP : va_P (dC, dI) vwCl [(ra 2, .inl (kI, 8, .inl (upd q_told 4 ((q_told 4) + 1)))), (ra 3, .inl (kI, 24, .inl (upd q_kind (12 + (q_told 4)).toNatClampNeg r18))), (ra 4, .inl (kI, 24, .inl (upd q_salt (12 + (q_told 4)).toNatClampNeg r283))), (ra 5, .inl (kI, 24, .inl (upd q_pace (12 + (q_told 4)).toNatClampNeg r295))), (ra 6, .inl (kI, 24, .inl (upd q_mute (12 + (q_told 4)).toNatClampNeg 1))), (ra 7, .inl (kI, 24, .inl (upd q_late (12 + (q_told 4)).toNatClampNeg 0))), (ra 1, .inl (kS, 4, .inr (.inr (.inr (.inr q_kinds))))), (m0, .inr (11, oX11 ra y297)), (ra 13, .inl (kI, 700, .inl q_tape))] H := hPa
              have hD : va_D A [(ra 2, .inl (kI, 8, .inl (upd q_told 4 ((q_told 4) + 1)))), (ra 3, .inl (kI, 24, .inl (upd q_kind (12 + (q_told 4)).toNatClampNeg r18))), (ra 4, .inl (kI, 24, .inl (upd q_salt (12 + (q_told 4)).toNatClampNeg r283))), (ra 5, .inl (kI, 24, .inl (upd q_pace (12 + (q_told 4)).toNatClampNeg r295))), (ra 6, .inl (kI, 24, .inl (upd q_mute (12 + (q_told 4)).toNatClampNeg 1))), (ra 7, .inl (kI, 24, .inl (upd q_late (12 + (q_told 4)).toNatClampNeg 0))), (ra 1, .inl (kS, 4, .inr (.inr (.inr (.inr q_kinds))))), (m0, .inr (11, oX11 ra y297)), (ra 13, .inl (kI, 700, .inl q_tape))] := hDa
              clear hPa hDa
              have hPD9 := cl_s (wc := [(m0, .inr (11, oX11 ra y297)), (ra 2, .inl (kI, 8, .inl (upd q_told 4 ((q_told 4) + 1)))), (ra 3, .inl (kI, 24, .inl (upd q_kind (12 + (q_told 4)).toNatClampNeg r18))), (ra 4, .inl (kI, 24, .inl (upd q_salt (12 + (q_told 4)).toNatClampNeg r283))), (ra 5, .inl (kI, 24, .inl (upd q_pace (12 + (q_told 4)).toNatClampNeg r295))), (ra 6, .inl (kI, 24, .inl (upd q_mute (12 + (q_told 4)).toNatClampNeg 1))), (ra 7, .inl (kI, 24, .inl (upd q_late (12 + (q_told 4)).toNatClampNeg 0))), (ra 13, .inl (kI, 700, .inl q_tape)), (ra 1, .inl (kS, 4, .inr (.inr (.inr (.inr q_kinds)))))]) hP hD [7, 0, 1, 2, 3, 4, 5, 8, 6] rfl (by decide +kernel)
              have hP9 := hPD9.1
              have hD9 := hPD9.2
              exact W.vret hx hb hr (fun t ht hW => ⟨⟨(), rfl, trivial, y297, upd q_told 4 ((q_told 4) + 1), upd q_kind (12 + (q_told 4)).toNatClampNeg r18, upd q_salt (12 + (q_told 4)).toNatClampNeg r283, upd q_pace (12 + (q_told 4)).toNatClampNeg r295, upd q_mute (12 + (q_told 4)).toNatClampNeg 1, upd q_late (12 + (q_told 4)).toNatClampNeg 0, hq298, (fI_u hq_told (k := 4) ((iv_w b357 (by decide) (by decide)))), (fI_u hq_salt (k := (12 + (q_told 4)).toNatClampNeg) (w284.1)), (show (x0 2).toInt ≤ (y297 2).toInt from by omega), (show y297 3 = x0 3 from hq300.trans (hq288.trans (hq275.trans (hq10)))), (show ∀ j : Nat, (j : Int) < (q_told 1).toInt → (q_from j).toInt < (q_to j).toInt from hLT), (show ∀ j : Nat, (j : Int) < (q_told 5).toInt → (q_from (20 + j)).toInt < (q_to (20 + j)).toInt from hLD), (show RRd tT nN y297 (rtrS tT nN sS (q_told 4)) from it_f (Q := RRd tT nN y297) c1 (hrr356)), fun w => absurd w c354, low_t (by decide), lw12_u (iv_w b2 (by decide) (by decide)), lw12_u (iv_w b2 (by decide) (by decide)), (show y297 1 = x0 1 from hq302.trans (hq290.trans (hq277.trans (hq13)))), (show y297 10 = x0 10 from hq303.trans (hq291.trans (hq278.trans (hq14)))), (show y297 11 = x0 11 from hq304.trans (hq292.trans (hq279.trans (hq15)))), (show y297 14 = x0 14 from hq305.trans (hq293.trans (hq280.trans (hq16)))), by rw [ht]; exact hP9, hD9⟩, hS.F ht⟩) hS.2.2 dX11_readRouter_178
            · have b358 : iv 0 0 (y297 8) := iv_eqL c354 ivk_0
              refine lv_aload_n hx hb dX11_readRouter_148 rfl (lv_at hl 2 rfl) ?_
              refine va_get (D := (dC, dI)) (ci := 11) (v := .ref (ra 6)) (C := RX11) (T := TX11) (N := 61) hx hb hts hin11 hown hK hP 7 rfl rfl 7 (Nat.le_of_ble_eq_true rfl) hw_6 (fun _ h9 => h9) rfl dX11_readRouter_149 ?_
              refine lv_iload_n hx hb dX11_readRouter_152 rfl (lv_at hl 1 rfl) ?_
              refine va_iald hx hb hK hP 4 1 rfl rfl (iv_in b17 (by decide) (by decide)) dX11_readRouter_153 ?_
              refine W.eq (g2 := F0 m 154 ls [.int 1]) (by rw [upd_eq]) ?_
              refine lv_aload_n hx hb dX11_readRouter_154 rfl (lv_at hl 2 rfl) ?_
              refine va_get (D := (dC, dI)) (ci := 11) (v := .ref (ra 7)) (C := RX11) (T := TX11) (N := 61) hx hb hts hin11 hown hK hP 7 rfl rfl 8 (Nat.le_of_ble_eq_true rfl) hw_7 (fun _ h9 => h9) rfl dX11_readRouter_155 ?_
              refine lv_iload_n hx hb dX11_readRouter_158 rfl (lv_at hl 1 rfl) ?_
              refine va_iald hx hb hK hP 5 1 rfl rfl (iv_in b17 (by decide) (by decide)) dX11_readRouter_159 ?_
              refine W.eq (g2 := F0 m 160 ls [.int 0, .int 1]) (by rw [upd_eq]) ?_
              refine lv_iadd hx hb dX11_readRouter_160 ?_
              refine lv_topi (fun z359 e360 => ?_)
              obtain rfl : z359 = (1 : Int32) := e360.trans (by decide)
              refine lv_if_le (tgt := 168) hx hb dX11_readRouter_161 rfl (fun c9 => absurd c9 (by decide)) (fun _ => ?_)
              refine lv_aload_n hx hb dX11_readRouter_164 rfl (lv_at hl 2 rfl) ?_
              obtain ⟨hPc, hDc, hFc, hJn⟩ := cl_a (wc := [(m0, .inr (11, oX11 ra y297)), (ra 13, .inl (kI, 700, .inl q_tape))]) (wr := [(ra 2, .inl (kI, 8, .inl q_told)), (ra 3, .inl (kI, 24, .inl (upd q_kind (12 + (q_told 4)).toNatClampNeg r18))), (ra 4, .inl (kI, 24, .inl (upd q_salt (12 + (q_told 4)).toNatClampNeg r283))), (ra 5, .inl (kI, 24, .inl (upd q_pace (12 + (q_told 4)).toNatClampNeg r295))), (ra 6, .inl (kI, 24, .inl (upd q_mute (12 + (q_told 4)).toNatClampNeg 1))), (ra 7, .inl (kI, 24, .inl (upd q_late (12 + (q_told 4)).toNatClampNeg 0))), (ra 1, .inl (kS, 4, .inr (.inr (.inr (.inr q_kinds)))))]) hP hD hS hA [7, 8] [0, 1, 2, 3, 4, 5, 6] rfl rfl (by decide +kernel)
              refine va_callv (va_runV (As := []) (rest := []) ⟨hx, hb, hml, hown, hts⟩ (s11_stepOn l dC dI kB kI kJ kZ kC kS H.size m0 ra y297 q_tape tT nN (nextT tT nN (rtr4 tT nN sS)) (hq298) (hq_tape) (hrr306.2) (stp_of hrr306) (hTQ)) (cwV 0 hts gX11_readRouter_X11_stepOn rfl rfl rfl (by decide +kernel) ⟨Nat.le_of_ble_eq_true rfl, Nat.le_of_ble_eq_true rfl⟩) ⟨fun a U g mk q => by obtain ⟨q0, q1, qP, qE, qD⟩ := q; exact ⟨q0, q1, qP, kE_call qE, qD⟩, va_recv hK hP (ci := 11) (q0 := 7) rfl rfl, fun U hU hW => ⟨rfl, by rw [hU], by rw [hU]; exact hPc, kE_warm hW hE, hDc.weaken (fun _ _ _ _ => trivial)⟩⟩ rfl rfl hl.1 rfl (lv_room (Nat.le_of_ble_eq_true rfl)) dX11_readRouter_165 ⟨Nat.le_of_ble_eq_true rfl, Nat.le_of_ble_eq_true rfl⟩) hS (fun q _ h => hFc q h) hFc (fun u t H locs ht hvm w362 hB hz1 hk1 hS => ?_)
              obtain ⟨y363, hq364, hq365, hq366, hq367, hq368, hq369, hq370, hq371, hq372, hP1, hD1⟩ := hB
              try dsimp only at w362
              obtain ⟨hPa, hDa⟩ := hJn (w1 := [(m0, .inr (11, oX11 ra y363)), (ra 13, .inl (kI, 700, .inl q_tape))]) hk1 ht hP1 hD1
              clear hP hD hPc hDc hFc hJn hP1 hD1 hk1
              have hP : va_P (dC, dI) vwCl [(ra 2, .inl (kI, 8, .inl q_told)), (ra 3, .inl (kI, 24, .inl (upd q_kind (12 + (q_told 4)).toNatClampNeg r18))), (ra 4, .inl (kI, 24, .inl (upd q_salt (12 + (q_told 4)).toNatClampNeg r283))), (ra 5, .inl (kI, 24, .inl (upd q_pace (12 + (q_told 4)).toNatClampNeg r295))), (ra 6, .inl (kI, 24, .inl (upd q_mute (12 + (q_told 4)).toNatClampNeg 1))), (ra 7, .inl (kI, 24, .inl (upd q_late (12 + (q_told 4)).toNatClampNeg 0))), (ra 1, .inl (kS, 4, .inr (.inr (.inr (.inr q_kinds))))), (m0, .inr (11, oX11 ra y363)), (ra 13, .inl (kI, 700, .inl q_tape))] H := hPa
              have hD : va_D A [(ra 2, .inl (kI, 8, .inl q_told)), (ra 3, .inl (kI, 24, .inl (upd q_kind (12 + (q_told 4)).toNatClampNeg r18))), (ra 4, .inl (kI, 24, .inl (upd q_salt (12 + (q_told 4)).toNatClampNeg r283))), (ra 5, .inl (kI, 24, .inl (upd q_pace (12 + (q_told 4)).toNatClampNeg r295))), (ra 6, .inl (kI, 24, .inl (upd q_mute (12 + (q_told 4)).toNatClampNeg 1))), (ra 7, .inl (kI, 24, .inl (upd q_late (12 + (q_told 4)).toNatClampNeg 0))), (ra 1, .inl (kS, 4, .inr (.inr (.inr (.inr q_kinds))))), (m0, .inr (11, oX11 ra y363)), (ra 13, .inl (kI, 700, .inl q_tape))] := hDa
              clear hPa hDa
              refine W.widen (k := 0) (n := 0) (Nat.le_of_ble_eq_true rfl) (Nat.le_of_ble_eq_true rfl) ?_
              have hrr373 : RRd tT nN y363 (manT tT nN (rtr4 tT nN sS)) := (mq_s hrr306 c354 (Or.inl c310)) ▸ hq368
              refine lv_aload_n hx hb dX11_readRouter_168 rfl (lv_at hl 2 rfl) ?_
              refine va_get (D := (dC, dI)) (ci := 11) (v := .ref (ra 2)) (C := RX11) (T := TX11) (N := 61) hx hb hts hin11 hown hK hP 7 rfl rfl 3 (Nat.le_of_ble_eq_true rfl) hw_0 (fun _ h9 => h9) rfl dX11_readRouter_169 ?_
              refine lv_iconst (v := 4) hx hb dX11_readRouter_172 ic_4 ?_
              refine lv_dup2_11 hx hb dX11_readRouter_173 rfl rfl ?_
              refine va_iald hx hb hK hP 0 1 rfl rfl (vp_in_nI (n := 4) (by decide) (by decide)) dX11_readRouter_174 ?_
              refine W.eq (g2 := F0 m 175 ls [.int (q_told 4), .int 4, .ref (ra 2)]) rfl ?_
              refine lv_iconst (v := 1) hx hb dX11_readRouter_175 ic_1 ?_
              refine lv_iadd hx hb dX11_readRouter_176 ?_
              have b374 : iv 1 12 ((q_told 4) + 1) := iv_add b2 ivk_1 (by decide) (by decide) (by decide) (by decide)
              refine va_iast hx hb hK hP hD hS 0 1 rfl rfl (vp_in_nI (n := 4) (by decide) (by decide)) dX11_readRouter_177 (fun H locs hPa hDa hS => ?_)
              clear hP hD
              have hP : va_P (dC, dI) vwCl [(ra 2, .inl (kI, 8, .inl (upd q_told 4 ((q_told 4) + 1)))), (ra 3, .inl (kI, 24, .inl (upd q_kind (12 + (q_told 4)).toNatClampNeg r18))), (ra 4, .inl (kI, 24, .inl (upd q_salt (12 + (q_told 4)).toNatClampNeg r283))), (ra 5, .inl (kI, 24, .inl (upd q_pace (12 + (q_told 4)).toNatClampNeg r295))), (ra 6, .inl (kI, 24, .inl (upd q_mute (12 + (q_told 4)).toNatClampNeg 1))), (ra 7, .inl (kI, 24, .inl (upd q_late (12 + (q_told 4)).toNatClampNeg 0))), (ra 1, .inl (kS, 4, .inr (.inr (.inr (.inr q_kinds))))), (m0, .inr (11, oX11 ra y363)), (ra 13, .inl (kI, 700, .inl q_tape))] H := hPa
              have hD : va_D A [(ra 2, .inl (kI, 8, .inl (upd q_told 4 ((q_told 4) + 1)))), (ra 3, .inl (kI, 24, .inl (upd q_kind (12 + (q_told 4)).toNatClampNeg r18))), (ra 4, .inl (kI, 24, .inl (upd q_salt (12 + (q_told 4)).toNatClampNeg r283))), (ra 5, .inl (kI, 24, .inl (upd q_pace (12 + (q_told 4)).toNatClampNeg r295))), (ra 6, .inl (kI, 24, .inl (upd q_mute (12 + (q_told 4)).toNatClampNeg 1))), (ra 7, .inl (kI, 24, .inl (upd q_late (12 + (q_told 4)).toNatClampNeg 0))), (ra 1, .inl (kS, 4, .inr (.inr (.inr (.inr q_kinds))))), (m0, .inr (11, oX11 ra y363)), (ra 13, .inl (kI, 700, .inl q_tape))] := hDa
              clear hPa hDa
              have hPD9 := cl_s (wc := [(m0, .inr (11, oX11 ra y363)), (ra 2, .inl (kI, 8, .inl (upd q_told 4 ((q_told 4) + 1)))), (ra 3, .inl (kI, 24, .inl (upd q_kind (12 + (q_told 4)).toNatClampNeg r18))), (ra 4, .inl (kI, 24, .inl (upd q_salt (12 + (q_told 4)).toNatClampNeg r283))), (ra 5, .inl (kI, 24, .inl (upd q_pace (12 + (q_told 4)).toNatClampNeg r295))), (ra 6, .inl (kI, 24, .inl (upd q_mute (12 + (q_told 4)).toNatClampNeg 1))), (ra 7, .inl (kI, 24, .inl (upd q_late (12 + (q_told 4)).toNatClampNeg 0))), (ra 13, .inl (kI, 700, .inl q_tape)), (ra 1, .inl (kS, 4, .inr (.inr (.inr (.inr q_kinds)))))]) hP hD [7, 0, 1, 2, 3, 4, 5, 8, 6] rfl (by decide +kernel)
              have hP9 := hPD9.1
              have hD9 := hPD9.2
              exact W.vret hx hb hr (fun t ht hW => ⟨⟨(), rfl, trivial, y363, upd q_told 4 ((q_told 4) + 1), upd q_kind (12 + (q_told 4)).toNatClampNeg r18, upd q_salt (12 + (q_told 4)).toNatClampNeg r283, upd q_pace (12 + (q_told 4)).toNatClampNeg r295, upd q_mute (12 + (q_told 4)).toNatClampNeg 1, upd q_late (12 + (q_told 4)).toNatClampNeg 0, hq364, (fI_u hq_told (k := 4) ((iv_w b374 (by decide) (by decide)))), (fI_u hq_salt (k := (12 + (q_told 4)).toNatClampNeg) (w284.1)), (show (x0 2).toInt ≤ (y363 2).toInt from by omega), (show y363 3 = x0 3 from hq366.trans (hq300.trans (hq288.trans (hq275.trans (hq10))))), (show ∀ j : Nat, (j : Int) < (q_told 1).toInt → (q_from j).toInt < (q_to j).toInt from hLT), (show ∀ j : Nat, (j : Int) < (q_told 5).toInt → (q_from (20 + j)).toInt < (q_to (20 + j)).toInt from hLD), (show RRd tT nN y363 (rtrS tT nN sS (q_told 4)) from it_f (Q := RRd tT nN y363) c1 (hrr373)), fun _ => absurd (ok_next (ok_num (ok_next (ok_num (ok_next (rr_ok hrr306 c354)))))) (fun w => ok_fail ((kq_n hwk c20).symm ▸ w)), low_t (by decide), lw12_u (iv_w b2 (by decide) (by decide)), lw12_u (iv_w b2 (by decide) (by decide)), (show y363 1 = x0 1 from hq369.trans (hq302.trans (hq290.trans (hq277.trans (hq13))))), (show y363 10 = x0 10 from hq370.trans (hq303.trans (hq291.trans (hq278.trans (hq14))))), (show y363 11 = x0 11 from hq371.trans (hq304.trans (hq292.trans (hq279.trans (hq15))))), (show y363 14 = x0 14 from hq372.trans (hq305.trans (hq293.trans (hq280.trans (hq16))))), by rw [ht]; exact hP9, hD9⟩, hS.F ht⟩) hS.2.2 dX11_readRouter_178
          · have b375 : iv 1 1 (wS tT 9 (rtr4 tT nN sS)) := iv_neLo c352 b351 ivk_0 (by decide) (by decide)
            refine lv_iconst (v := 1) hx hb dX11_readRouter_135 ic_1 ?_
            refine lv_goto (tgt := 140) hx hb dX11_readRouter_136 rfl ?_
            refine va_iast hx hb hK hP hD hS 5 1 rfl rfl (iv_in b17 (by decide) (by decide)) dX11_readRouter_140 (fun H locs hPa hDa hS => ?_)
            clear hP hD
            have hP : va_P (dC, dI) vwCl [(ra 2, .inl (kI, 8, .inl q_told)), (ra 3, .inl (kI, 24, .inl (upd q_kind (12 + (q_told 4)).toNatClampNeg r18))), (ra 4, .inl (kI, 24, .inl (upd q_salt (12 + (q_told 4)).toNatClampNeg r283))), (ra 5, .inl (kI, 24, .inl (upd q_pace (12 + (q_told 4)).toNatClampNeg r295))), (ra 6, .inl (kI, 24, .inl (upd q_mute (12 + (q_told 4)).toNatClampNeg 1))), (ra 7, .inl (kI, 24, .inl (upd q_late (12 + (q_told 4)).toNatClampNeg 1))), (ra 1, .inl (kS, 4, .inr (.inr (.inr (.inr q_kinds))))), (m0, .inr (11, oX11 ra y297)), (ra 13, .inl (kI, 700, .inl q_tape))] H := hPa
            have hD : va_D A [(ra 2, .inl (kI, 8, .inl q_told)), (ra 3, .inl (kI, 24, .inl (upd q_kind (12 + (q_told 4)).toNatClampNeg r18))), (ra 4, .inl (kI, 24, .inl (upd q_salt (12 + (q_told 4)).toNatClampNeg r283))), (ra 5, .inl (kI, 24, .inl (upd q_pace (12 + (q_told 4)).toNatClampNeg r295))), (ra 6, .inl (kI, 24, .inl (upd q_mute (12 + (q_told 4)).toNatClampNeg 1))), (ra 7, .inl (kI, 24, .inl (upd q_late (12 + (q_told 4)).toNatClampNeg 1))), (ra 1, .inl (kS, 4, .inr (.inr (.inr (.inr q_kinds))))), (m0, .inr (11, oX11 ra y297)), (ra 13, .inl (kI, 700, .inl q_tape))] := hDa
            clear hPa hDa
            refine lv_aload_n hx hb dX11_readRouter_141 rfl (lv_at hl 2 rfl) ?_
            refine va_get (D := (dC, dI)) (ci := 11) (v := .int (y297 8)) (C := RX11) (T := TX11) (N := 61) hx hb hts hin11 hown hK hP 7 rfl rfl 22 (Nat.le_of_ble_eq_true rfl) hw_1 (fun _ h9 => h9) rfl dX11_readRouter_142 ?_
            refine lv_if_ne (tgt := 168) hx hb dX11_readRouter_145 rfl (fun c376 => ?_) (fun c376 => ?_)
            · have b377 : iv 1 5 (y297 8) := iv_neLo c376 (hq298 8 : iv 0 5 (y297 8)) ivk_0 (by decide) (by decide)
              have hrr378 : RRd tT nN y297 (manT tT nN (rtr4 tT nN sS)) := (mq_b hrr306 c376) ▸ hrr306
              refine lv_aload_n hx hb dX11_readRouter_168 rfl (lv_at hl 2 rfl) ?_
              refine va_get (D := (dC, dI)) (ci := 11) (v := .ref (ra 2)) (C := RX11) (T := TX11) (N := 61) hx hb hts hin11 hown hK hP 7 rfl rfl 3 (Nat.le_of_ble_eq_true rfl) hw_0 (fun _ h9 => h9) rfl dX11_readRouter_169 ?_
              refine lv_iconst (v := 4) hx hb dX11_readRouter_172 ic_4 ?_
              refine lv_dup2_11 hx hb dX11_readRouter_173 rfl rfl ?_
              refine va_iald hx hb hK hP 0 1 rfl rfl (vp_in_nI (n := 4) (by decide) (by decide)) dX11_readRouter_174 ?_
              refine W.eq (g2 := F0 m 175 ls [.int (q_told 4), .int 4, .ref (ra 2)]) rfl ?_
              refine lv_iconst (v := 1) hx hb dX11_readRouter_175 ic_1 ?_
              refine lv_iadd hx hb dX11_readRouter_176 ?_
              have b379 : iv 1 12 ((q_told 4) + 1) := iv_add b2 ivk_1 (by decide) (by decide) (by decide) (by decide)
              refine va_iast hx hb hK hP hD hS 0 1 rfl rfl (vp_in_nI (n := 4) (by decide) (by decide)) dX11_readRouter_177 (fun H locs hPa hDa hS => ?_)
              clear hP hD
              have hP : va_P (dC, dI) vwCl [(ra 2, .inl (kI, 8, .inl (upd q_told 4 ((q_told 4) + 1)))), (ra 3, .inl (kI, 24, .inl (upd q_kind (12 + (q_told 4)).toNatClampNeg r18))), (ra 4, .inl (kI, 24, .inl (upd q_salt (12 + (q_told 4)).toNatClampNeg r283))), (ra 5, .inl (kI, 24, .inl (upd q_pace (12 + (q_told 4)).toNatClampNeg r295))), (ra 6, .inl (kI, 24, .inl (upd q_mute (12 + (q_told 4)).toNatClampNeg 1))), (ra 7, .inl (kI, 24, .inl (upd q_late (12 + (q_told 4)).toNatClampNeg 1))), (ra 1, .inl (kS, 4, .inr (.inr (.inr (.inr q_kinds))))), (m0, .inr (11, oX11 ra y297)), (ra 13, .inl (kI, 700, .inl q_tape))] H := hPa
              have hD : va_D A [(ra 2, .inl (kI, 8, .inl (upd q_told 4 ((q_told 4) + 1)))), (ra 3, .inl (kI, 24, .inl (upd q_kind (12 + (q_told 4)).toNatClampNeg r18))), (ra 4, .inl (kI, 24, .inl (upd q_salt (12 + (q_told 4)).toNatClampNeg r283))), (ra 5, .inl (kI, 24, .inl (upd q_pace (12 + (q_told 4)).toNatClampNeg r295))), (ra 6, .inl (kI, 24, .inl (upd q_mute (12 + (q_told 4)).toNatClampNeg 1))), (ra 7, .inl (kI, 24, .inl (upd q_late (12 + (q_told 4)).toNatClampNeg 1))), (ra 1, .inl (kS, 4, .inr (.inr (.inr (.inr q_kinds))))), (m0, .inr (11, oX11 ra y297)), (ra 13, .inl (kI, 700, .inl q_tape))] := hDa
              clear hPa hDa
              have hPD9 := cl_s (wc := [(m0, .inr (11, oX11 ra y297)), (ra 2, .inl (kI, 8, .inl (upd q_told 4 ((q_told 4) + 1)))), (ra 3, .inl (kI, 24, .inl (upd q_kind (12 + (q_told 4)).toNatClampNeg r18))), (ra 4, .inl (kI, 24, .inl (upd q_salt (12 + (q_told 4)).toNatClampNeg r283))), (ra 5, .inl (kI, 24, .inl (upd q_pace (12 + (q_told 4)).toNatClampNeg r295))), (ra 6, .inl (kI, 24, .inl (upd q_mute (12 + (q_told 4)).toNatClampNeg 1))), (ra 7, .inl (kI, 24, .inl (upd q_late (12 + (q_told 4)).toNatClampNeg 1))), (ra 13, .inl (kI, 700, .inl q_tape)), (ra 1, .inl (kS, 4, .inr (.inr (.inr (.inr q_kinds)))))]) hP hD [7, 0, 1, 2, 3, 4, 5, 8, 6] rfl (by decide +kernel)
              have hP9 := hPD9.1
              have hD9 := hPD9.2
              exact W.vret hx hb hr (fun t ht hW => ⟨⟨(), rfl, trivial, y297, upd q_told 4 ((q_told 4) + 1), upd q_kind (12 + (q_told 4)).toNatClampNeg r18, upd q_salt (12 + (q_told 4)).toNatClampNeg r283, upd q_pace (12 + (q_told 4)).toNatClampNeg r295, upd q_mute (12 + (q_told 4)).toNatClampNeg 1, upd q_late (12 + (q_told 4)).toNatClampNeg 1, hq298, (fI_u hq_told (k := 4) ((iv_w b379 (by decide) (by decide)))), (fI_u hq_salt (k := (12 + (q_told 4)).toNatClampNeg) (w284.1)), (show (x0 2).toInt ≤ (y297 2).toInt from by omega), (show y297 3 = x0 3 from hq300.trans (hq288.trans (hq275.trans (hq10)))), (show ∀ j : Nat, (j : Int) < (q_told 1).toInt → (q_from j).toInt < (q_to j).toInt from hLT), (show ∀ j : Nat, (j : Int) < (q_told 5).toInt → (q_from (20 + j)).toInt < (q_to (20 + j)).toInt from hLD), (show RRd tT nN y297 (rtrS tT nN sS (q_told 4)) from it_f (Q := RRd tT nN y297) c1 (hrr378)), fun w => absurd w c376, low_t (by decide), lw12_u (iv_w b2 (by decide) (by decide)), lw12_u (iv_w b2 (by decide) (by decide)), (show y297 1 = x0 1 from hq302.trans (hq290.trans (hq277.trans (hq13)))), (show y297 10 = x0 10 from hq303.trans (hq291.trans (hq278.trans (hq14)))), (show y297 11 = x0 11 from hq304.trans (hq292.trans (hq279.trans (hq15)))), (show y297 14 = x0 14 from hq305.trans (hq293.trans (hq280.trans (hq16)))), by rw [ht]; exact hP9, hD9⟩, hS.F ht⟩) hS.2.2 dX11_readRouter_178
            · have b380 : iv 0 0 (y297 8) := iv_eqL c376 ivk_0
              refine lv_aload_n hx hb dX11_readRouter_148 rfl (lv_at hl 2 rfl) ?_
              refine va_get (D := (dC, dI)) (ci := 11) (v := .ref (ra 6)) (C := RX11) (T := TX11) (N := 61) hx hb hts hin11 hown hK hP 7 rfl rfl 7 (Nat.le_of_ble_eq_true rfl) hw_6 (fun _ h9 => h9) rfl dX11_readRouter_149 ?_
              refine lv_iload_n hx hb dX11_readRouter_152 rfl (lv_at hl 1 rfl) ?_
              refine va_iald hx hb hK hP 4 1 rfl rfl (iv_in b17 (by decide) (by decide)) dX11_readRouter_153 ?_
              refine W.eq (g2 := F0 m 154 ls [.int 1]) (by rw [upd_eq]) ?_
              refine lv_aload_n hx hb dX11_readRouter_154 rfl (lv_at hl 2 rfl) ?_
              refine va_get (D := (dC, dI)) (ci := 11) (v := .ref (ra 7)) (C := RX11) (T := TX11) (N := 61) hx hb hts hin11 hown hK hP 7 rfl rfl 8 (Nat.le_of_ble_eq_true rfl) hw_7 (fun _ h9 => h9) rfl dX11_readRouter_155 ?_
              refine lv_iload_n hx hb dX11_readRouter_158 rfl (lv_at hl 1 rfl) ?_
              refine va_iald hx hb hK hP 5 1 rfl rfl (iv_in b17 (by decide) (by decide)) dX11_readRouter_159 ?_
              refine W.eq (g2 := F0 m 160 ls [.int 1, .int 1]) (by rw [upd_eq]) ?_
              refine lv_iadd hx hb dX11_readRouter_160 ?_
              refine lv_topi (fun z381 e382 => ?_)
              obtain rfl : z381 = (2 : Int32) := e382.trans (by decide)
              refine lv_if_le (tgt := 168) hx hb dX11_readRouter_161 rfl (fun c9 => absurd c9 (by decide)) (fun _ => ?_)
              refine lv_aload_n hx hb dX11_readRouter_164 rfl (lv_at hl 2 rfl) ?_
              obtain ⟨hPc, hDc, hFc, hJn⟩ := cl_a (wc := [(m0, .inr (11, oX11 ra y297)), (ra 13, .inl (kI, 700, .inl q_tape))]) (wr := [(ra 2, .inl (kI, 8, .inl q_told)), (ra 3, .inl (kI, 24, .inl (upd q_kind (12 + (q_told 4)).toNatClampNeg r18))), (ra 4, .inl (kI, 24, .inl (upd q_salt (12 + (q_told 4)).toNatClampNeg r283))), (ra 5, .inl (kI, 24, .inl (upd q_pace (12 + (q_told 4)).toNatClampNeg r295))), (ra 6, .inl (kI, 24, .inl (upd q_mute (12 + (q_told 4)).toNatClampNeg 1))), (ra 7, .inl (kI, 24, .inl (upd q_late (12 + (q_told 4)).toNatClampNeg 1))), (ra 1, .inl (kS, 4, .inr (.inr (.inr (.inr q_kinds)))))]) hP hD hS hA [7, 8] [0, 1, 2, 3, 4, 5, 6] rfl rfl (by decide +kernel)
              refine va_callv (va_runV (As := []) (rest := []) ⟨hx, hb, hml, hown, hts⟩ (s11_stepOn l dC dI kB kI kJ kZ kC kS H.size m0 ra y297 q_tape tT nN (nextT tT nN (rtr4 tT nN sS)) (hq298) (hq_tape) (hrr306.2) (stp_of hrr306) (hTQ)) (cwV 0 hts gX11_readRouter_X11_stepOn rfl rfl rfl (by decide +kernel) ⟨Nat.le_of_ble_eq_true rfl, Nat.le_of_ble_eq_true rfl⟩) ⟨fun a U g mk q => by obtain ⟨q0, q1, qP, qE, qD⟩ := q; exact ⟨q0, q1, qP, kE_call qE, qD⟩, va_recv hK hP (ci := 11) (q0 := 7) rfl rfl, fun U hU hW => ⟨rfl, by rw [hU], by rw [hU]; exact hPc, kE_warm hW hE, hDc.weaken (fun _ _ _ _ => trivial)⟩⟩ rfl rfl hl.1 rfl (lv_room (Nat.le_of_ble_eq_true rfl)) dX11_readRouter_165 ⟨Nat.le_of_ble_eq_true rfl, Nat.le_of_ble_eq_true rfl⟩) hS (fun q _ h => hFc q h) hFc (fun u t H locs ht hvm w384 hB hz1 hk1 hS => ?_)
              obtain ⟨y385, hq386, hq387, hq388, hq389, hq390, hq391, hq392, hq393, hq394, hP1, hD1⟩ := hB
              try dsimp only at w384
              obtain ⟨hPa, hDa⟩ := hJn (w1 := [(m0, .inr (11, oX11 ra y385)), (ra 13, .inl (kI, 700, .inl q_tape))]) hk1 ht hP1 hD1
              clear hP hD hPc hDc hFc hJn hP1 hD1 hk1
              have hP : va_P (dC, dI) vwCl [(ra 2, .inl (kI, 8, .inl q_told)), (ra 3, .inl (kI, 24, .inl (upd q_kind (12 + (q_told 4)).toNatClampNeg r18))), (ra 4, .inl (kI, 24, .inl (upd q_salt (12 + (q_told 4)).toNatClampNeg r283))), (ra 5, .inl (kI, 24, .inl (upd q_pace (12 + (q_told 4)).toNatClampNeg r295))), (ra 6, .inl (kI, 24, .inl (upd q_mute (12 + (q_told 4)).toNatClampNeg 1))), (ra 7, .inl (kI, 24, .inl (upd q_late (12 + (q_told 4)).toNatClampNeg 1))), (ra 1, .inl (kS, 4, .inr (.inr (.inr (.inr q_kinds))))), (m0, .inr (11, oX11 ra y385)), (ra 13, .inl (kI, 700, .inl q_tape))] H := hPa
              have hD : va_D A [(ra 2, .inl (kI, 8, .inl q_told)), (ra 3, .inl (kI, 24, .inl (upd q_kind (12 + (q_told 4)).toNatClampNeg r18))), (ra 4, .inl (kI, 24, .inl (upd q_salt (12 + (q_told 4)).toNatClampNeg r283))), (ra 5, .inl (kI, 24, .inl (upd q_pace (12 + (q_told 4)).toNatClampNeg r295))), (ra 6, .inl (kI, 24, .inl (upd q_mute (12 + (q_told 4)).toNatClampNeg 1))), (ra 7, .inl (kI, 24, .inl (upd q_late (12 + (q_told 4)).toNatClampNeg 1))), (ra 1, .inl (kS, 4, .inr (.inr (.inr (.inr q_kinds))))), (m0, .inr (11, oX11 ra y385)), (ra 13, .inl (kI, 700, .inl q_tape))] := hDa
              clear hPa hDa
              refine W.widen (k := 0) (n := 0) (Nat.le_of_ble_eq_true rfl) (Nat.le_of_ble_eq_true rfl) ?_
              have hrr395 : RRd tT nN y385 (manT tT nN (rtr4 tT nN sS)) := (mq_s hrr306 c376 (Or.inl c310)) ▸ hq390
              refine lv_aload_n hx hb dX11_readRouter_168 rfl (lv_at hl 2 rfl) ?_
              refine va_get (D := (dC, dI)) (ci := 11) (v := .ref (ra 2)) (C := RX11) (T := TX11) (N := 61) hx hb hts hin11 hown hK hP 7 rfl rfl 3 (Nat.le_of_ble_eq_true rfl) hw_0 (fun _ h9 => h9) rfl dX11_readRouter_169 ?_
              refine lv_iconst (v := 4) hx hb dX11_readRouter_172 ic_4 ?_
              refine lv_dup2_11 hx hb dX11_readRouter_173 rfl rfl ?_
              refine va_iald hx hb hK hP 0 1 rfl rfl (vp_in_nI (n := 4) (by decide) (by decide)) dX11_readRouter_174 ?_
              refine W.eq (g2 := F0 m 175 ls [.int (q_told 4), .int 4, .ref (ra 2)]) rfl ?_
              refine lv_iconst (v := 1) hx hb dX11_readRouter_175 ic_1 ?_
              refine lv_iadd hx hb dX11_readRouter_176 ?_
              have b396 : iv 1 12 ((q_told 4) + 1) := iv_add b2 ivk_1 (by decide) (by decide) (by decide) (by decide)
              refine va_iast hx hb hK hP hD hS 0 1 rfl rfl (vp_in_nI (n := 4) (by decide) (by decide)) dX11_readRouter_177 (fun H locs hPa hDa hS => ?_)
              clear hP hD
              have hP : va_P (dC, dI) vwCl [(ra 2, .inl (kI, 8, .inl (upd q_told 4 ((q_told 4) + 1)))), (ra 3, .inl (kI, 24, .inl (upd q_kind (12 + (q_told 4)).toNatClampNeg r18))), (ra 4, .inl (kI, 24, .inl (upd q_salt (12 + (q_told 4)).toNatClampNeg r283))), (ra 5, .inl (kI, 24, .inl (upd q_pace (12 + (q_told 4)).toNatClampNeg r295))), (ra 6, .inl (kI, 24, .inl (upd q_mute (12 + (q_told 4)).toNatClampNeg 1))), (ra 7, .inl (kI, 24, .inl (upd q_late (12 + (q_told 4)).toNatClampNeg 1))), (ra 1, .inl (kS, 4, .inr (.inr (.inr (.inr q_kinds))))), (m0, .inr (11, oX11 ra y385)), (ra 13, .inl (kI, 700, .inl q_tape))] H := hPa
              have hD : va_D A [(ra 2, .inl (kI, 8, .inl (upd q_told 4 ((q_told 4) + 1)))), (ra 3, .inl (kI, 24, .inl (upd q_kind (12 + (q_told 4)).toNatClampNeg r18))), (ra 4, .inl (kI, 24, .inl (upd q_salt (12 + (q_told 4)).toNatClampNeg r283))), (ra 5, .inl (kI, 24, .inl (upd q_pace (12 + (q_told 4)).toNatClampNeg r295))), (ra 6, .inl (kI, 24, .inl (upd q_mute (12 + (q_told 4)).toNatClampNeg 1))), (ra 7, .inl (kI, 24, .inl (upd q_late (12 + (q_told 4)).toNatClampNeg 1))), (ra 1, .inl (kS, 4, .inr (.inr (.inr (.inr q_kinds))))), (m0, .inr (11, oX11 ra y385)), (ra 13, .inl (kI, 700, .inl q_tape))] := hDa
              clear hPa hDa
              have hPD9 := cl_s (wc := [(m0, .inr (11, oX11 ra y385)), (ra 2, .inl (kI, 8, .inl (upd q_told 4 ((q_told 4) + 1)))), (ra 3, .inl (kI, 24, .inl (upd q_kind (12 + (q_told 4)).toNatClampNeg r18))), (ra 4, .inl (kI, 24, .inl (upd q_salt (12 + (q_told 4)).toNatClampNeg r283))), (ra 5, .inl (kI, 24, .inl (upd q_pace (12 + (q_told 4)).toNatClampNeg r295))), (ra 6, .inl (kI, 24, .inl (upd q_mute (12 + (q_told 4)).toNatClampNeg 1))), (ra 7, .inl (kI, 24, .inl (upd q_late (12 + (q_told 4)).toNatClampNeg 1))), (ra 13, .inl (kI, 700, .inl q_tape)), (ra 1, .inl (kS, 4, .inr (.inr (.inr (.inr q_kinds)))))]) hP hD [7, 0, 1, 2, 3, 4, 5, 8, 6] rfl (by decide +kernel)
              have hP9 := hPD9.1
              have hD9 := hPD9.2
              exact W.vret hx hb hr (fun t ht hW => ⟨⟨(), rfl, trivial, y385, upd q_told 4 ((q_told 4) + 1), upd q_kind (12 + (q_told 4)).toNatClampNeg r18, upd q_salt (12 + (q_told 4)).toNatClampNeg r283, upd q_pace (12 + (q_told 4)).toNatClampNeg r295, upd q_mute (12 + (q_told 4)).toNatClampNeg 1, upd q_late (12 + (q_told 4)).toNatClampNeg 1, hq386, (fI_u hq_told (k := 4) ((iv_w b396 (by decide) (by decide)))), (fI_u hq_salt (k := (12 + (q_told 4)).toNatClampNeg) (w284.1)), (show (x0 2).toInt ≤ (y385 2).toInt from by omega), (show y385 3 = x0 3 from hq388.trans (hq300.trans (hq288.trans (hq275.trans (hq10))))), (show ∀ j : Nat, (j : Int) < (q_told 1).toInt → (q_from j).toInt < (q_to j).toInt from hLT), (show ∀ j : Nat, (j : Int) < (q_told 5).toInt → (q_from (20 + j)).toInt < (q_to (20 + j)).toInt from hLD), (show RRd tT nN y385 (rtrS tT nN sS (q_told 4)) from it_f (Q := RRd tT nN y385) c1 (hrr395)), fun _ => absurd (ok_next (ok_num (ok_next (ok_num (ok_next (rr_ok hrr306 c376)))))) (fun w => ok_fail ((kq_n hwk c20).symm ▸ w)), low_t (by decide), lw12_u (iv_w b2 (by decide) (by decide)), lw12_u (iv_w b2 (by decide) (by decide)), (show y385 1 = x0 1 from hq391.trans (hq302.trans (hq290.trans (hq277.trans (hq13))))), (show y385 10 = x0 10 from hq392.trans (hq303.trans (hq291.trans (hq278.trans (hq14))))), (show y385 11 = x0 11 from hq393.trans (hq304.trans (hq292.trans (hq279.trans (hq15))))), (show y385 14 = x0 14 from hq394.trans (hq305.trans (hq293.trans (hq280.trans (hq16))))), by rw [ht]; exact hP9, hD9⟩, hS.F ht⟩) hS.2.2 dX11_readRouter_178
    · have b397 : iv 1 5 (x0 8) := iv_neLo c3 (hX 8 : iv 0 5 (x0 8)) ivk_0 (by decide) (by decide)
      have hP9 := hP
      have hD9 := hD
      exact W.vret hx hb hr (fun t ht hW => ⟨⟨(), rfl, trivial, x0, q_told, q_kind, q_salt, q_pace, q_mute, q_late, hX, hq_told, hq_salt, (show (x0 2).toInt ≤ (x0 2).toInt from by omega), (show x0 3 = x0 3 from rfl), (show ∀ j : Nat, (j : Int) < (q_told 1).toInt → (q_from j).toInt < (q_to j).toInt from hLT), (show ∀ j : Nat, (j : Int) < (q_told 5).toInt → (q_from (20 + j)).toInt < (q_to (20 + j)).toInt from hLD), (show RRd tT nN x0 (rtrS tT nN sS (q_told 4)) from (rt_in hRr c3) ▸ hRr), (show x0 8 = 0 → q_told = upd q_told 4 (q_told 4 + 1) ∧ q_kind = upd q_kind ((12 + (q_told 4)).toNatClampNeg) (kndS tT (rtr1 tT nN sS)) ∧ q_salt = upd q_salt ((12 + (q_told 4)).toNatClampNeg) (valS tT (rtr2 tT nN sS)) ∧ q_pace = upd q_pace ((12 + (q_told 4)).toNatClampNeg) (valS tT (rtr3 tT nN sS)) ∧ q_mute = upd q_mute ((12 + (q_told 4)).toNatClampNeg) (wS tT 8 (rtr4 tT nN sS)) ∧ q_late = upd q_late ((12 + (q_told 4)).toNatClampNeg) (wS tT 9 (rtr4 tT nN sS)) from fun w => absurd w c3), (show LowT q_told q_from q_to q_told q_from q_to from low_0), (show Lw12 q_kind q_kind from lw12_0), (show Lw12 q_salt q_salt from lw12_0), (show x0 1 = x0 1 from rfl), (show x0 10 = x0 10 from rfl), (show x0 11 = x0 11 from rfl), (show x0 14 = x0 14 from rfl), by rw [ht]; exact hP9, hD9⟩, hS.F ht⟩) hS.2.2 dX11_readRouter_23
  · have b398 : iv 12 12 (q_told 4) := iv_eqL c1 ivk_12
    refine lv_aload_n hx hb dX11_readRouter_11 rfl (lv_at hl 0 rfl) ?_
    refine lv_iconst (v := 2) hx hb dX11_readRouter_12 ic_2 ?_
    obtain ⟨hPc, hDc, hFc, hJn⟩ := cl_a (wc := [(m0, .inr (11, oX11 ra x0))]) (wr := [(ra 2, .inl (kI, 8, .inl q_told)), (ra 3, .inl (kI, 24, .inl q_kind)), (ra 4, .inl (kI, 24, .inl q_salt)), (ra 5, .inl (kI, 24, .inl q_pace)), (ra 6, .inl (kI, 24, .inl q_mute)), (ra 7, .inl (kI, 24, .inl q_late)), (ra 13, .inl (kI, 700, .inl q_tape)), (ra 1, .inl (kS, 4, .inr (.inr (.inr (.inr q_kinds)))))]) hP hD hS hA [0] [1, 2, 3, 4, 5, 6, 7, 8] rfl rfl (by decide +kernel)
    refine va_callv (va_runV (As := [.int 2]) (rest := []) ⟨hx, hb, hml, hown, hts⟩ (s11_wrong l dC dI kB kI kJ kZ kC kS s.heap.size m0 ra x0 2 tT nN sS (hX) ((iv_w ivk_2 (by decide) (by decide))) (hRr)) (cwV 1 hts gX11_readRouter_X11_wrong rfl rfl rfl (by decide +kernel) ⟨Nat.le_of_ble_eq_true rfl, Nat.le_of_ble_eq_true rfl⟩) ⟨fun a U g mk q => by obtain ⟨q0, q1, qP, qE, qD⟩ := q; exact ⟨q0, q1, qP, kE_call qE, qD⟩, va_recv hK hP (ci := 11) (q0 := 0) rfl rfl, fun U hU hW => ⟨rfl, by rw [hU], by rw [hU]; exact hPc, kE_warm hW hE, hDc.weaken (fun _ _ _ _ => trivial)⟩⟩ rfl rfl hl.1 rfl (lv_room (Nat.le_of_ble_eq_true rfl)) dX11_readRouter_13 ⟨Nat.le_of_ble_eq_true rfl, Nat.le_of_ble_eq_true rfl⟩) hS (fun q _ h => hFc q h) hFc (fun u t H locs ht hvm w400 hB hz1 hk1 hS => ?_)
    obtain ⟨y401, hq402, hq403, hq404, hq405, hq406, hq407, hq408, hq409, hq410, hP1, hD1⟩ := hB
    try dsimp only at w400
    obtain ⟨hPa, hDa⟩ := hJn (w1 := [(m0, .inr (11, oX11 ra y401))]) hk1 ht hP1 hD1
    clear hP hD hPc hDc hFc hJn hP1 hD1 hk1
    have hP : va_P (dC, dI) vwCl [(ra 2, .inl (kI, 8, .inl q_told)), (ra 3, .inl (kI, 24, .inl q_kind)), (ra 4, .inl (kI, 24, .inl q_salt)), (ra 5, .inl (kI, 24, .inl q_pace)), (ra 6, .inl (kI, 24, .inl q_mute)), (ra 7, .inl (kI, 24, .inl q_late)), (ra 13, .inl (kI, 700, .inl q_tape)), (ra 1, .inl (kS, 4, .inr (.inr (.inr (.inr q_kinds))))), (m0, .inr (11, oX11 ra y401))] H := hPa
    have hD : va_D A [(ra 2, .inl (kI, 8, .inl q_told)), (ra 3, .inl (kI, 24, .inl q_kind)), (ra 4, .inl (kI, 24, .inl q_salt)), (ra 5, .inl (kI, 24, .inl q_pace)), (ra 6, .inl (kI, 24, .inl q_mute)), (ra 7, .inl (kI, 24, .inl q_late)), (ra 13, .inl (kI, 700, .inl q_tape)), (ra 1, .inl (kS, 4, .inr (.inr (.inr (.inr q_kinds))))), (m0, .inr (11, oX11 ra y401))] := hDa
    clear hPa hDa
    refine W.widen (k := 0) (n := 0) (Nat.le_of_ble_eq_true rfl) (Nat.le_of_ble_eq_true rfl) ?_
    refine lv_aload_n hx hb dX11_readRouter_16 rfl (lv_at hl 0 rfl) ?_
    refine va_get (D := (dC, dI)) (ci := 11) (v := .int (y401 8)) (C := RX11) (T := TX11) (N := 61) hx hb hts hin11 hown hK hP 8 rfl rfl 22 (Nat.le_of_ble_eq_true rfl) hw_1 (fun _ h9 => h9) rfl dX11_readRouter_17 ?_
    refine lv_if_eq (tgt := 24) hx hb dX11_readRouter_20 rfl (fun c9 => absurd c9 (iv_ne hq403 ivk_0 (by decide))) (fun _ => ?_)
    have hPD9 := cl_s (wc := [(m0, .inr (11, oX11 ra y401)), (ra 2, .inl (kI, 8, .inl q_told)), (ra 3, .inl (kI, 24, .inl q_kind)), (ra 4, .inl (kI, 24, .inl q_salt)), (ra 5, .inl (kI, 24, .inl q_pace)), (ra 6, .inl (kI, 24, .inl q_mute)), (ra 7, .inl (kI, 24, .inl q_late)), (ra 13, .inl (kI, 700, .inl q_tape)), (ra 1, .inl (kS, 4, .inr (.inr (.inr (.inr q_kinds)))))]) hP hD [8, 0, 1, 2, 3, 4, 5, 6, 7] rfl (by decide +kernel)
    have hP9 := hPD9.1
    have hD9 := hPD9.2
    exact W.vret hx hb hr (fun t ht hW => ⟨⟨(), rfl, trivial, y401, q_told, q_kind, q_salt, q_pace, q_mute, q_late, hq402, hq_told, hq_salt, (show (x0 2).toInt ≤ (y401 2).toInt from by omega), (show y401 3 = x0 3 from hq405), (show ∀ j : Nat, (j : Int) < (q_told 1).toInt → (q_from j).toInt < (q_to j).toInt from hLT), (show ∀ j : Nat, (j : Int) < (q_told 5).toInt → (q_from (20 + j)).toInt < (q_to (20 + j)).toInt from hLD), (show RRd tT nN y401 (rtrS tT nN sS (q_told 4)) from it_t (Q := RRd tT nN y401) c1 (hq406)), (show y401 8 = 0 → q_told = upd q_told 4 (q_told 4 + 1) ∧ q_kind = upd q_kind ((12 + (q_told 4)).toNatClampNeg) (kndS tT (rtr1 tT nN sS)) ∧ q_salt = upd q_salt ((12 + (q_told 4)).toNatClampNeg) (valS tT (rtr2 tT nN sS)) ∧ q_pace = upd q_pace ((12 + (q_told 4)).toNatClampNeg) (valS tT (rtr3 tT nN sS)) ∧ q_mute = upd q_mute ((12 + (q_told 4)).toNatClampNeg) (wS tT 8 (rtr4 tT nN sS)) ∧ q_late = upd q_late ((12 + (q_told 4)).toNatClampNeg) (wS tT 9 (rtr4 tT nN sS)) from fun w => absurd w (rr_nf hq406)), (show LowT q_told q_from q_to q_told q_from q_to from low_0), (show Lw12 q_kind q_kind from lw12_0), (show Lw12 q_salt q_salt from lw12_0), (show y401 1 = x0 1 from hq407), (show y401 10 = x0 10 from hq408), (show y401 11 = x0 11 from hq409), (show y401 14 = x0 14 from hq410), by rw [ht]; exact hP9, hD9⟩, hS.F ht⟩) hS.2.2 dX11_readRouter_23
def rm_s11_readLink : Room := { frames := 3, cells := 0, slots := 0, locals := 64 }
set_option maxHeartbeats 4000000 in
set_option maxRecDepth 100000 in
theorem s11_readLink (l : Launch) (dC : Nat → ClassId) (dI : Nat → Nat → Nat) (kB kI kJ kZ kC kS : ClassId) (sz : Nat) (m0 : Nat) (ra : Nat → Nat) (x0 : Nat → Int32) (q_told : Nat → Int32) (q_from : Nat → Int32) (q_to : Nat → Int32) (q_tape : Nat → Int32) (tT : Nat → Int32) (nN : Int32) (sS : StT) (hX : fI lX11 hX11 x0) (hq_told : fI lTold hTold q_told) (hq_from : fI (fun _ => 0) (fun _ => 11) q_from) (hq_to : fI (fun _ => 0) (fun _ => 11) q_to) (hq_tape : fI (fun _ => 0) (fun _ => 255) q_tape) (hLT : ∀ j : Nat, (j : Int) < (q_told 1).toInt → (q_from j).toInt < (q_to j).toInt) (hLD : ∀ j : Nat, (j : Int) < (q_told 5).toInt → (q_from (20 + j)).toInt < (q_to (20 + j)).toInt) (hRr : RRd tT nN x0 sS) (hTQ : tT = q_tape) : Met l yX11_readLink wsX11_readLink rm_s11_readLink (va_Pc [.ref m0] (fun U => U.heap.size = sz ∧ va_P (dC, dI) vwCl [(m0, .inr (11, oX11 ra x0)), (ra 2, .inl (kI, 8, .inl q_told)), (ra 8, .inl (kI, 40, .inl q_from)), (ra 9, .inl (kI, 40, .inl q_to)), (ra 13, .inl (kI, 700, .inl q_tape))] U.heap ∧ kE dC dI kB kI kJ kZ kC kS U ∧ va_D (fun _ => True) [(m0, .inr (11, oX11 ra x0)), (ra 2, .inl (kI, 8, .inl q_told)), (ra 8, .inl (kI, 40, .inl q_from)), (ra 9, .inl (kI, 40, .inl q_to)), (ra 13, .inl (kI, 700, .inl q_tape))])) (va_Qv (fun (_ : Unit) => True) (fun _ t => ∃ (x0' : Nat → Int32) (q_told' : Nat → Int32) (q_from' : Nat → Int32) (q_to' : Nat → Int32), fI lX11 hX11 x0' ∧ fI lTold hTold q_told' ∧ fI (fun _ => 0) (fun _ => 11) q_from' ∧ fI (fun _ => 0) (fun _ => 11) q_to' ∧ ((x0 2).toInt ≤ (x0' 2).toInt) ∧ (x0' 3 = x0 3) ∧ (∀ j : Nat, (j : Int) < (q_told' 1).toInt → (q_from' j).toInt < (q_to' j).toInt) ∧ (∀ j : Nat, (j : Int) < (q_told' 5).toInt → (q_from' (20 + j)).toInt < (q_to' (20 + j)).toInt) ∧ (RRd tT nN x0' (lnkS tT nN sS (q_told 4) (q_told 5) (shT 20 q_from) (shT 20 q_to))) ∧ (x0' 8 = 0 → q_told' = upd q_told 5 (q_told 5 + 1) ∧ q_from' = upd q_from ((20 + (q_told 5)).toNatClampNeg) (lnkA tT nN sS) ∧ q_to' = upd q_to ((20 + (q_told 5)).toNatClampNeg) (lnkB tT nN sS (q_told 4) (q_told 5) (shT 20 q_from))) ∧ (LowT q_told q_from q_to q_told' q_from' q_to') ∧ (x0' 1 = x0 1) ∧ (x0' 10 = x0 10) ∧ (x0' 11 = x0 11) ∧ (x0' 14 = x0 14) ∧ va_P (dC, dI) vwCl [(m0, .inr (11, oX11 ra x0')), (ra 2, .inl (kI, 8, .inl q_told')), (ra 8, .inl (kI, 40, .inl q_from')), (ra 9, .inl (kI, 40, .inl q_to')), (ra 13, .inl (kI, 700, .inl q_tape))] t.heap ∧ va_D (va_A [(m0, .inr (11, oX11 ra x0)), (ra 2, .inl (kI, 8, .inl q_told)), (ra 8, .inl (kI, 40, .inl q_from)), (ra 9, .inl (kI, 40, .inl q_to)), (ra 13, .inl (kI, 700, .inl q_tape))] sz) [(m0, .inr (11, oX11 ra x0')), (ra 2, .inl (kI, 8, .inl q_told')), (ra 8, .inl (kI, 40, .inl q_from')), (ra 9, .inl (kI, 40, .inl q_to')), (ra 13, .inl (kI, 700, .inl q_tape))]) (va_A [(m0, .inr (11, oX11 ra x0)), (ra 2, .inl (kI, 8, .inl q_told)), (ra 8, .inl (kI, 40, .inl q_from)), (ra 9, .inl (kI, 40, .inl q_to)), (ra 13, .inl (kI, 700, .inl q_tape))] sz)) 0 0 (va_A [(m0, .inr (11, oX11 ra x0)), (ra 2, .inl (kI, 8, .inl q_told)), (ra 8, .inl (kI, 40, .inl q_from)), (ra 9, .inl (kI, 40, .inl q_to)), (ra 13, .inl (kI, 700, .inl q_tape))] sz) := by
  refine Met.ofW (cc := cX11_readLink) (maxL := 3) (ret := none) (by decide) rfl ?_
  intro p e s m args0 below meth c s₁ B hml hv
  obtain ⟨hargs, hsz, hP, hE, hD0⟩ := hv
  have hx := B.exec
  have hb := B.bytes
  have hr := B.returns
  have hts := atoms_spec (ws := wsX11_readLink) B.pre
  have hown : s.vm.findClass RX11 = some m.cls := findClass_of_methodNamed B.named
  have hlocks := B.notSynchronized
  have hK := hE.1
  have hin11 : ∀ w ∈ wsX110, w ∈ wsX11_readLink := fun _ h9 => List.mem_cons_of_mem _ (List.mem_append_right _ h9)
  have hw_0 := hts (.fieldLink RX11 34 "PathProberModel" "told" "[I") (List.mem_of_getElem? (i := 1) rfl)
  have hw_1 := hts (.fieldLink RX11 184 "PathProberModel" "bad" "I") (List.mem_of_getElem? (i := 2) rfl)
  have hw_2 := hts (.fieldLink RX11 53 "PathProberModel" "from" "[I") (List.mem_of_getElem? (i := 3) rfl)
  have hw_3 := hts (.fieldLink RX11 56 "PathProberModel" "to" "[I") (List.mem_of_getElem? (i := 4) rfl)
  subst hsz
  have hD := hD0.self (sz := s.heap.size)
  generalize hAe : va_A [(m0, .inr (11, oX11 ra x0)), (ra 2, .inl (kI, 8, .inl q_told)), (ra 8, .inl (kI, 40, .inl q_from)), (ra 9, .inl (kI, 40, .inl q_to)), (ra 13, .inl (kI, 700, .inl q_tape))] s.heap.size = A at hD ⊢
  have hA : ∀ q : Nat, s.heap.size ≤ q → A q := fun q h => by rw [← hAe]; exact Or.inr h
  have hS : va_S A s.heap s.heap [] := va_S.rf
  have hP : va_P (dC, dI) vwCl [(m0, .inr (11, oX11 ra x0)), (ra 2, .inl (kI, 8, .inl q_told)), (ra 8, .inl (kI, 40, .inl q_from)), (ra 9, .inl (kI, 40, .inl q_to)), (ra 13, .inl (kI, 700, .inl q_tape))] s.heap := hP
  have hl := lv_entry ([.ref m0]) (n := 3) (Nat.le_of_ble_eq_true rfl)
  have hla : entryFrame m args0 3 = entryFrame m ([.ref m0] : List Value).toArray 3 := by rw [hargs]
  rw [hla, lg_entry_eq]
  generalize (lg_sl ([.ref m0]) ++ List.replicate (3 - (lg_sl ([.ref m0])).length) Slot.unset).toArray = ls at hl ⊢
  have hl : lv_has ls 3 [(0, .ref m0)] := hl
  refine lv_aload_n hx hb dX11_readLink_0 rfl (lv_at hl 0 rfl) ?_
  refine va_get (D := (dC, dI)) (ci := 11) (v := .ref (ra 2)) (C := RX11) (T := TX11) (N := 61) hx hb hts hin11 hown hK hP 0 rfl rfl 3 (Nat.le_of_ble_eq_true rfl) hw_0 (fun _ h9 => h9) rfl dX11_readLink_1 ?_
  refine lv_iconst (v := 5) hx hb dX11_readLink_4 ic_5 ?_
  refine va_iald hx hb hK hP 1 1 rfl rfl (vp_in_nI (n := 5) (by decide) (by decide)) dX11_readLink_5 ?_
  refine W.eq (g2 := F0 m 6 ls [.int (q_told 5)]) rfl ?_
  refine lv_bipush (v := 20) hx hb dX11_readLink_6 bp_20 ?_
  refine lv_icmp_ne (tgt := 16) hx hb dX11_readLink_8 rfl (fun c1 => ?_) (fun c1 => ?_)
  · have b2 : iv 0 19 (q_told 5) := iv_neHi c1 (hq_told 5 : iv 0 20 (q_told 5)) ivk_20 (by decide) (by decide)
    refine lv_aload_n hx hb dX11_readLink_16 rfl (lv_at hl 0 rfl) ?_
    refine va_get (D := (dC, dI)) (ci := 11) (v := .int (x0 8)) (C := RX11) (T := TX11) (N := 61) hx hb hts hin11 hown hK hP 0 rfl rfl 22 (Nat.le_of_ble_eq_true rfl) hw_1 (fun _ h9 => h9) rfl dX11_readLink_17 ?_
    refine lv_if_eq (tgt := 24) hx hb dX11_readLink_20 rfl (fun c3 => ?_) (fun c3 => ?_)
    · have b4 : iv 0 0 (x0 8) := iv_eqL c3 ivk_0
      refine lv_aload_n hx hb dX11_readLink_24 rfl (lv_at hl 0 rfl) ?_
      obtain ⟨hPc, hDc, hFc, hJn⟩ := cl_a (wc := [(m0, .inr (11, oX11 ra x0)), (ra 13, .inl (kI, 700, .inl q_tape))]) (wr := [(ra 2, .inl (kI, 8, .inl q_told)), (ra 8, .inl (kI, 40, .inl q_from)), (ra 9, .inl (kI, 40, .inl q_to))]) hP hD hS hA [0, 4] [1, 2, 3] rfl rfl (by decide +kernel)
      refine va_callv (va_runV (As := []) (rest := []) ⟨hx, hb, hml, hown, hts⟩ (s11_stepOn l dC dI kB kI kJ kZ kC kS s.heap.size m0 ra x0 q_tape tT nN (nextT tT nN sS) (hX) (hq_tape) (hRr.2) (stp_of hRr) (hTQ)) (cwV 0 hts gX11_readLink_X11_stepOn rfl rfl rfl (by decide +kernel) ⟨Nat.le_of_ble_eq_true rfl, Nat.le_of_ble_eq_true rfl⟩) ⟨fun a U g mk q => by obtain ⟨q0, q1, qP, qE, qD⟩ := q; exact ⟨q0, q1, qP, kE_call qE, qD⟩, va_recv hK hP (ci := 11) (q0 := 0) rfl rfl, fun U hU hW => ⟨rfl, by rw [hU], by rw [hU]; exact hPc, kE_warm hW hE, hDc.weaken (fun _ _ _ _ => trivial)⟩⟩ rfl rfl hl.1 rfl (lv_room (Nat.le_of_ble_eq_true rfl)) dX11_readLink_25 ⟨Nat.le_of_ble_eq_true rfl, Nat.le_of_ble_eq_true rfl⟩) hS (fun q _ h => hFc q h) hFc (fun u t H locs ht hvm w6 hB hz1 hk1 hS => ?_)
      obtain ⟨y7, hq8, hq9, hq10, hq11, hq12, hq13, hq14, hq15, hq16, hP1, hD1⟩ := hB
      try dsimp only at w6
      obtain ⟨hPa, hDa⟩ := hJn (w1 := [(m0, .inr (11, oX11 ra y7)), (ra 13, .inl (kI, 700, .inl q_tape))]) hk1 ht hP1 hD1
      clear hP hD hPc hDc hFc hJn hP1 hD1 hk1
      have hP : va_P (dC, dI) vwCl [(ra 2, .inl (kI, 8, .inl q_told)), (ra 8, .inl (kI, 40, .inl q_from)), (ra 9, .inl (kI, 40, .inl q_to)), (m0, .inr (11, oX11 ra y7)), (ra 13, .inl (kI, 700, .inl q_tape))] H := hPa
      have hD : va_D A [(ra 2, .inl (kI, 8, .inl q_told)), (ra 8, .inl (kI, 40, .inl q_from)), (ra 9, .inl (kI, 40, .inl q_to)), (m0, .inr (11, oX11 ra y7)), (ra 13, .inl (kI, 700, .inl q_tape))] := hDa
      clear hPa hDa
      refine W.widen (k := 0) (n := 0) (Nat.le_of_ble_eq_true rfl) (Nat.le_of_ble_eq_true rfl) ?_
      refine lv_aload_n hx hb dX11_readLink_28 rfl (lv_at hl 0 rfl) ?_
      obtain ⟨hPc, hDc, hFc, hJn⟩ := cl_a (wc := [(m0, .inr (11, oX11 ra y7)), (ra 2, .inl (kI, 8, .inl q_told))]) (wr := [(ra 8, .inl (kI, 40, .inl q_from)), (ra 9, .inl (kI, 40, .inl q_to)), (ra 13, .inl (kI, 700, .inl q_tape))]) hP hD hS hA [3, 0] [1, 2, 4] rfl rfl (by decide +kernel)
      refine va_calli (va_runV (As := []) (rest := []) ⟨hx, hb, hml, hown, hts⟩ (s11_routerNow l dC dI kB kI kJ kZ kC kS H.size m0 ra y7 q_told tT nN (nextT tT nN sS) (hq8) (hq_told) (hq12)) (cwV 0 hts gX11_readLink_X11_routerNow rfl rfl rfl (by decide +kernel) ⟨Nat.le_of_ble_eq_true rfl, Nat.le_of_ble_eq_true rfl⟩) ⟨fun a U g mk q => by obtain ⟨q0, q1, qP, qE, qD⟩ := q; exact ⟨q0, q1, qP, kE_call qE, qD⟩, va_recv hK hP (ci := 11) (q0 := 3) rfl rfl, fun U hU hW => ⟨rfl, by rw [hU], by rw [hU]; exact hPc, kE_warm hW hE, hDc.weaken (fun _ _ _ _ => trivial)⟩⟩ rfl rfl hl.1 rfl (lv_room (Nat.le_of_ble_eq_true rfl)) dX11_readLink_29 ⟨Nat.le_of_ble_eq_true rfl, Nat.le_of_ble_eq_true rfl⟩) hS (fun q _ h => hFc q h) hFc (fun r17 u t H locs ht hvm w18 hB hz1 hk1 hS => ?_)
      obtain ⟨y19, hq20, hq21, hq22, hq23, hq24, hq25, hq26, hq27, hP1, hD1⟩ := hB
      try dsimp only at w18
      obtain ⟨hPa, hDa⟩ := hJn (w1 := [(m0, .inr (11, oX11 ra y19)), (ra 2, .inl (kI, 8, .inl q_told))]) hk1 ht hP1 hD1
      clear hP hD hPc hDc hFc hJn hP1 hD1 hk1
      have hP : va_P (dC, dI) vwCl [(ra 8, .inl (kI, 40, .inl q_from)), (ra 9, .inl (kI, 40, .inl q_to)), (ra 13, .inl (kI, 700, .inl q_tape)), (m0, .inr (11, oX11 ra y19)), (ra 2, .inl (kI, 8, .inl q_told))] H := hPa
      have hD : va_D A [(ra 8, .inl (kI, 40, .inl q_from)), (ra 9, .inl (kI, 40, .inl q_to)), (ra 13, .inl (kI, 700, .inl q_tape)), (m0, .inr (11, oX11 ra y19)), (ra 2, .inl (kI, 8, .inl q_told))] := hDa
      clear hPa hDa
      refine W.widen (k := 0) (n := 0) (Nat.le_of_ble_eq_true rfl) (Nat.le_of_ble_eq_true rfl) ?_
      have hv9 := w18.2
      refine lv_istore_n (lv' := [(1, .int r17), (0, .ref m0)]) hx hb dX11_readLink_32 rfl hl (Nat.le_of_ble_eq_true rfl) rfl (fun ls hl => ?_)
      refine lv_aload_n hx hb dX11_readLink_33 rfl (lv_at hl 1 rfl) ?_
      refine va_get (D := (dC, dI)) (ci := 11) (v := .int (y19 8)) (C := RX11) (T := TX11) (N := 61) hx hb hts hin11 hown hK hP 3 rfl rfl 22 (Nat.le_of_ble_eq_true rfl) hw_1 (fun _ h9 => h9) rfl dX11_readLink_34 ?_
      refine lv_if_ne (tgt := 54) hx hb dX11_readLink_37 rfl (fun c28 => ?_) (fun c28 => ?_)
      · have b29 : iv 1 5 (y19 8) := iv_neLo c28 (hq20 8 : iv 0 5 (y19 8)) ivk_0 (by decide) (by decide)
        have hrr30 : RRd tT nN y19 (iteT (cntT (shT 20 q_from) (lnkA tT nN sS) (q_told 5).toNatClampNeg = 4) (failT 2 (lnk1 tT nN sS (q_told 4))) (lnk1 tT nN sS (q_told 4))) := ite_r hq23 c28 ▸ hq23
        refine lv_aload_n hx hb dX11_readLink_54 rfl (lv_at hl 1 rfl) ?_
        refine va_get (D := (dC, dI)) (ci := 11) (v := .int (y19 8)) (C := RX11) (T := TX11) (N := 61) hx hb hts hin11 hown hK hP 3 rfl rfl 22 (Nat.le_of_ble_eq_true rfl) hw_1 (fun _ h9 => h9) rfl dX11_readLink_55 ?_
        refine lv_if_ne (tgt := 65) hx hb dX11_readLink_58 rfl (fun _ => ?_) (fun c9 => absurd c9 (c28))
        have hrr31 : RRd tT nN y19 (lnk2 tT nN sS (q_told 4) (q_told 5) (shT 20 q_from)) := rr_stepN hrr30 c28
        refine lv_aload_n hx hb dX11_readLink_65 rfl (lv_at hl 1 rfl) ?_
        obtain ⟨hPc, hDc, hFc, hJn⟩ := cl_a (wc := [(m0, .inr (11, oX11 ra y19)), (ra 2, .inl (kI, 8, .inl q_told))]) (wr := [(ra 8, .inl (kI, 40, .inl q_from)), (ra 9, .inl (kI, 40, .inl q_to)), (ra 13, .inl (kI, 700, .inl q_tape))]) hP hD hS hA [3, 4] [0, 1, 2] rfl rfl (by decide +kernel)
        refine va_calli (va_runV (As := []) (rest := []) ⟨hx, hb, hml, hown, hts⟩ (s11_routerNow l dC dI kB kI kJ kZ kC kS H.size m0 ra y19 q_told tT nN (lnk2 tT nN sS (q_told 4) (q_told 5) (shT 20 q_from)) (hq20) (hq_told) (hrr31)) (cwV 0 hts gX11_readLink_X11_routerNow rfl rfl rfl (by decide +kernel) ⟨Nat.le_of_ble_eq_true rfl, Nat.le_of_ble_eq_true rfl⟩) ⟨fun a U g mk q => by obtain ⟨q0, q1, qP, qE, qD⟩ := q; exact ⟨q0, q1, qP, kE_call qE, qD⟩, va_recv hK hP (ci := 11) (q0 := 3) rfl rfl, fun U hU hW => ⟨rfl, by rw [hU], by rw [hU]; exact hPc, kE_warm hW hE, hDc.weaken (fun _ _ _ _ => trivial)⟩⟩ rfl rfl hl.1 rfl (lv_room (Nat.le_of_ble_eq_true rfl)) dX11_readLink_66 ⟨Nat.le_of_ble_eq_true rfl, Nat.le_of_ble_eq_true rfl⟩) hS (fun q _ h => hFc q h) hFc (fun r32 u t H locs ht hvm w33 hB hz1 hk1 hS => ?_)
        obtain ⟨y34, hq35, hq36, hq37, hq38, hq39, hq40, hq41, hq42, hP1, hD1⟩ := hB
        try dsimp only at w33
        obtain ⟨hPa, hDa⟩ := hJn (w1 := [(m0, .inr (11, oX11 ra y34)), (ra 2, .inl (kI, 8, .inl q_told))]) hk1 ht hP1 hD1
        clear hP hD hPc hDc hFc hJn hP1 hD1 hk1
        have hP : va_P (dC, dI) vwCl [(ra 8, .inl (kI, 40, .inl q_from)), (ra 9, .inl (kI, 40, .inl q_to)), (ra 13, .inl (kI, 700, .inl q_tape)), (m0, .inr (11, oX11 ra y34)), (ra 2, .inl (kI, 8, .inl q_told))] H := hPa
        have hD : va_D A [(ra 8, .inl (kI, 40, .inl q_from)), (ra 9, .inl (kI, 40, .inl q_to)), (ra 13, .inl (kI, 700, .inl q_tape)), (m0, .inr (11, oX11 ra y34)), (ra 2, .inl (kI, 8, .inl q_told))] := hDa
        clear hPa hDa
        refine W.widen (k := 0) (n := 0) (Nat.le_of_ble_eq_true rfl) (Nat.le_of_ble_eq_true rfl) ?_
        have hv8 := w33.2
        refine lv_istore_n (lv' := [(2, .int r32), (1, .int r17), (0, .ref m0)]) hx hb dX11_readLink_69 rfl hl (Nat.le_of_ble_eq_true rfl) rfl (fun ls hl => ?_)
        refine lv_aload_n hx hb dX11_readLink_70 rfl (lv_at hl 2 rfl) ?_
        refine va_get (D := (dC, dI)) (ci := 11) (v := .int (y34 8)) (C := RX11) (T := TX11) (N := 61) hx hb hts hin11 hown hK hP 3 rfl rfl 22 (Nat.le_of_ble_eq_true rfl) hw_1 (fun _ h9 => h9) rfl dX11_readLink_71 ?_
        refine lv_if_ne (tgt := 96) hx hb dX11_readLink_74 rfl (fun c43 => ?_) (fun c43 => ?_)
        · have b44 : iv 1 5 (y34 8) := iv_neLo c43 (hq35 8 : iv 0 5 (y34 8)) ivk_0 (by decide) (by decide)
          have hrr45 : RRd tT nN y34 (iteT (lnkB tT nN sS (q_told 4) (q_told 5) (shT 20 q_from) ≤ lnkA tT nN sS ∨ hasT (shT 20 q_from) (shT 20 q_to) (q_told 5) (lnkA tT nN sS) (lnkB tT nN sS (q_told 4) (q_told 5) (shT 20 q_from))) (failT 5 (lnk3 tT nN sS (q_told 4) (q_told 5) (shT 20 q_from))) (lnk3 tT nN sS (q_told 4) (q_told 5) (shT 20 q_from))) := ite_r hq38 c43 ▸ hq38
          refine lv_aload_n hx hb dX11_readLink_96 rfl (lv_at hl 2 rfl) ?_
          refine va_get (D := (dC, dI)) (ci := 11) (v := .int (y34 8)) (C := RX11) (T := TX11) (N := 61) hx hb hts hin11 hown hK hP 3 rfl rfl 22 (Nat.le_of_ble_eq_true rfl) hw_1 (fun _ h9 => h9) rfl dX11_readLink_97 ?_
          refine lv_if_eq (tgt := 104) hx hb dX11_readLink_100 rfl (fun c9 => absurd c9 (c43)) (fun _ => ?_)
          have hPD9 := cl_s (wc := [(m0, .inr (11, oX11 ra y34)), (ra 2, .inl (kI, 8, .inl q_told)), (ra 8, .inl (kI, 40, .inl q_from)), (ra 9, .inl (kI, 40, .inl q_to)), (ra 13, .inl (kI, 700, .inl q_tape))]) hP hD [3, 4, 0, 1, 2] rfl (by decide +kernel)
          have hP9 := hPD9.1
          have hD9 := hPD9.2
          exact W.vret hx hb hr (fun t ht hW => ⟨⟨(), rfl, trivial, y34, q_told, q_from, q_to, hq35, hq_told, hq_from, hq_to, (show (x0 2).toInt ≤ (y34 2).toInt from by omega), (show y34 3 = x0 3 from hq37.trans (hq22.trans (hq10))), (show ∀ j : Nat, (j : Int) < (q_told 1).toInt → (q_from j).toInt < (q_to j).toInt from hLT), (show ∀ j : Nat, (j : Int) < (q_told 5).toInt → (q_from (20 + j)).toInt < (q_to (20 + j)).toInt from hLD), (show RRd tT nN y34 (lnkS tT nN sS (q_told 4) (q_told 5) (shT 20 q_from) (shT 20 q_to)) from it_f (Q := RRd tT nN y34) c1 ((rr_stepN hrr45 c43))), (show y34 8 = 0 → q_told = upd q_told 5 (q_told 5 + 1) ∧ q_from = upd q_from ((20 + (q_told 5)).toNatClampNeg) (lnkA tT nN sS) ∧ q_to = upd q_to ((20 + (q_told 5)).toNatClampNeg) (lnkB tT nN sS (q_told 4) (q_told 5) (shT 20 q_from)) from fun w => absurd w c43), (show LowT q_told q_from q_to q_told q_from q_to from low_0), (show y34 1 = x0 1 from hq39.trans (hq24.trans (hq13))), (show y34 10 = x0 10 from hq40.trans (hq25.trans (hq14))), (show y34 11 = x0 11 from hq41.trans (hq26.trans (hq15))), (show y34 14 = x0 14 from hq42.trans (hq27.trans (hq16))), by rw [ht]; exact hP9, hD9⟩, hS.F ht⟩) hS.2.2 dX11_readLink_103
        · have b46 : iv 0 0 (y34 8) := iv_eqL c43 ivk_0
          refine lv_iload_n hx hb dX11_readLink_77 rfl (lv_at hl 0 rfl) ?_
          refine lv_iload_n hx hb dX11_readLink_78 rfl (lv_at hl 1 rfl) ?_
          refine lv_icmp_le (tgt := 91) hx hb dX11_readLink_79 rfl (fun c47 => ?_) (fun c47 => ?_)
          · refine lv_aload_n hx hb dX11_readLink_91 rfl (lv_at hl 2 rfl) ?_
            refine lv_iconst (v := 5) hx hb dX11_readLink_92 ic_5 ?_
            obtain ⟨hPc, hDc, hFc, hJn⟩ := cl_a (wc := [(m0, .inr (11, oX11 ra y34))]) (wr := [(ra 8, .inl (kI, 40, .inl q_from)), (ra 9, .inl (kI, 40, .inl q_to)), (ra 13, .inl (kI, 700, .inl q_tape)), (ra 2, .inl (kI, 8, .inl q_told))]) hP hD hS hA [3] [0, 1, 2, 4] rfl rfl (by decide +kernel)
            refine va_callv (va_runV (As := [.int 5]) (rest := []) ⟨hx, hb, hml, hown, hts⟩ (s11_wrong l dC dI kB kI kJ kZ kC kS H.size m0 ra y34 5 tT nN (rouT tT (q_told 4) (lnk2 tT nN sS (q_told 4) (q_told 5) (shT 20 q_from))) (hq35) ((iv_w ivk_5 (by decide) (by decide))) (hq38)) (cwV 1 hts gX11_readLink_X11_wrong rfl rfl rfl (by decide +kernel) ⟨Nat.le_of_ble_eq_true rfl, Nat.le_of_ble_eq_true rfl⟩) ⟨fun a U g mk q => by obtain ⟨q0, q1, qP, qE, qD⟩ := q; exact ⟨q0, q1, qP, kE_call qE, qD⟩, va_recv hK hP (ci := 11) (q0 := 3) rfl rfl, fun U hU hW => ⟨rfl, by rw [hU], by rw [hU]; exact hPc, kE_warm hW hE, hDc.weaken (fun _ _ _ _ => trivial)⟩⟩ rfl rfl hl.1 rfl (lv_room (Nat.le_of_ble_eq_true rfl)) dX11_readLink_93 ⟨Nat.le_of_ble_eq_true rfl, Nat.le_of_ble_eq_true rfl⟩) hS (fun q _ h => hFc q h) hFc (fun u t H locs ht hvm w49 hB hz1 hk1 hS => ?_)
            obtain ⟨y50, hq51, hq52, hq53, hq54, hq55, hq56, hq57, hq58, hq59, hP1, hD1⟩ := hB
            try dsimp only at w49
            obtain ⟨hPa, hDa⟩ := hJn (w1 := [(m0, .inr (11, oX11 ra y50))]) hk1 ht hP1 hD1
            clear hP hD hPc hDc hFc hJn hP1 hD1 hk1
            have hP : va_P (dC, dI) vwCl [(ra 8, .inl (kI, 40, .inl q_from)), (ra 9, .inl (kI, 40, .inl q_to)), (ra 13, .inl (kI, 700, .inl q_tape)), (ra 2, .inl (kI, 8, .inl q_told)), (m0, .inr (11, oX11 ra y50))] H := hPa
            have hD : va_D A [(ra 8, .inl (kI, 40, .inl q_from)), (ra 9, .inl (kI, 40, .inl q_to)), (ra 13, .inl (kI, 700, .inl q_tape)), (ra 2, .inl (kI, 8, .inl q_told)), (m0, .inr (11, oX11 ra y50))] := hDa
            clear hPa hDa
            refine W.widen (k := 0) (n := 0) (Nat.le_of_ble_eq_true rfl) (Nat.le_of_ble_eq_true rfl) ?_
            have hok9 := rr_ok hq38 c43
            have hb9 := hv8 hok9
            have ha9 := hv9 (ok_ite (ok_next (ok_num (ok_rou hok9)))).1
            have hrr60 : RRd tT nN y50 (iteT (lnkB tT nN sS (q_told 4) (q_told 5) (shT 20 q_from) ≤ lnkA tT nN sS ∨ hasT (shT 20 q_from) (shT 20 q_to) (q_told 5) (lnkA tT nN sS) (lnkB tT nN sS (q_told 4) (q_told 5) (shT 20 q_from))) (failT 5 (lnk3 tT nN sS (q_told 4) (q_told 5) (shT 20 q_from))) (lnk3 tT nN sS (q_told 4) (q_told 5) (shT 20 q_from))) := it_t (Q := RRd tT nN y50) (Or.inl (by have q := c47; rw [ha9, hb9] at q; exact q)) (hq55)
            refine lv_aload_n hx hb dX11_readLink_96 rfl (lv_at hl 2 rfl) ?_
            refine va_get (D := (dC, dI)) (ci := 11) (v := .int (y50 8)) (C := RX11) (T := TX11) (N := 61) hx hb hts hin11 hown hK hP 4 rfl rfl 22 (Nat.le_of_ble_eq_true rfl) hw_1 (fun _ h9 => h9) rfl dX11_readLink_97 ?_
            refine lv_if_eq (tgt := 104) hx hb dX11_readLink_100 rfl (fun c9 => absurd c9 (iv_ne hq52 ivk_0 (by decide))) (fun _ => ?_)
            have hPD9 := cl_s (wc := [(m0, .inr (11, oX11 ra y50)), (ra 2, .inl (kI, 8, .inl q_told)), (ra 8, .inl (kI, 40, .inl q_from)), (ra 9, .inl (kI, 40, .inl q_to)), (ra 13, .inl (kI, 700, .inl q_tape))]) hP hD [4, 3, 0, 1, 2] rfl (by decide +kernel)
            have hP9 := hPD9.1
            have hD9 := hPD9.2
            exact W.vret hx hb hr (fun t ht hW => ⟨⟨(), rfl, trivial, y50, q_told, q_from, q_to, hq51, hq_told, hq_from, hq_to, (show (x0 2).toInt ≤ (y50 2).toInt from by omega), (show y50 3 = x0 3 from hq54.trans (hq37.trans (hq22.trans (hq10)))), (show ∀ j : Nat, (j : Int) < (q_told 1).toInt → (q_from j).toInt < (q_to j).toInt from hLT), (show ∀ j : Nat, (j : Int) < (q_told 5).toInt → (q_from (20 + j)).toInt < (q_to (20 + j)).toInt from hLD), (show RRd tT nN y50 (lnkS tT nN sS (q_told 4) (q_told 5) (shT 20 q_from) (shT 20 q_to)) from it_f (Q := RRd tT nN y50) c1 ((rr_stepN hrr60 (iv_ne hq52 ivk_0 (by decide))))), (show y50 8 = 0 → q_told = upd q_told 5 (q_told 5 + 1) ∧ q_from = upd q_from ((20 + (q_told 5)).toNatClampNeg) (lnkA tT nN sS) ∧ q_to = upd q_to ((20 + (q_told 5)).toNatClampNeg) (lnkB tT nN sS (q_told 4) (q_told 5) (shT 20 q_from)) from fun w => absurd w (iv_ne hq52 ivk_0 (by decide))), (show LowT q_told q_from q_to q_told q_from q_to from low_0), (show y50 1 = x0 1 from hq56.trans (hq39.trans (hq24.trans (hq13)))), (show y50 10 = x0 10 from hq57.trans (hq40.trans (hq25.trans (hq14)))), (show y50 11 = x0 11 from hq58.trans (hq41.trans (hq26.trans (hq15)))), (show y50 14 = x0 14 from hq59.trans (hq42.trans (hq27.trans (hq16)))), by rw [ht]; exact hP9, hD9⟩, hS.F ht⟩) hS.2.2 dX11_readLink_103
          · have b61 : iv 0 10 r17 := iv_ltL (Int32.not_le.mp c47) w18.1 w33.1 (by decide) (by decide)
            have b62 : iv 1 11 r32 := iv_ltR (Int32.not_le.mp c47) w18.1 w33.1 (by decide) (by decide)
            refine lv_aload_n hx hb dX11_readLink_82 rfl (lv_at hl 2 rfl) ?_
            refine lv_iload_n hx hb dX11_readLink_83 rfl (lv_at hl 1 rfl) ?_
            refine lv_iload_n hx hb dX11_readLink_84 rfl (lv_at hl 0 rfl) ?_
            obtain ⟨hPc, hDc, hFc, hJn⟩ := cl_a (wc := [(m0, .inr (11, oX11 ra y34)), (ra 2, .inl (kI, 8, .inl q_told)), (ra 8, .inl (kI, 40, .inl q_from)), (ra 9, .inl (kI, 40, .inl q_to))]) (wr := [(ra 13, .inl (kI, 700, .inl q_tape))]) hP hD hS hA [3, 4, 0, 1] [2] rfl rfl (by decide +kernel)
            refine va_calli (va_runV (As := [.int r17, .int r32]) (rest := []) ⟨hx, hb, hml, hown, hts⟩ (s11_hasLink l dC dI kB kI kJ kZ kC kS H.size m0 ra y34 q_told q_from q_to r17 r32 (hq35) (hq_told) (hq_from) (hq_to)) (cwV 2 hts gX11_readLink_X11_hasLink rfl rfl rfl (by decide +kernel) ⟨Nat.le_of_ble_eq_true rfl, Nat.le_of_ble_eq_true rfl⟩) ⟨fun a U g mk q => by obtain ⟨q0, q1, qP, qE, qD⟩ := q; exact ⟨q0, q1, qP, kE_call qE, qD⟩, va_recv hK hP (ci := 11) (q0 := 3) rfl rfl, fun U hU hW => ⟨rfl, by rw [hU], by rw [hU]; exact hPc, kE_warm hW hE, hDc.weaken (fun _ _ _ _ => trivial)⟩⟩ rfl rfl hl.1 rfl (lv_room (Nat.le_of_ble_eq_true rfl)) dX11_readLink_85 ⟨Nat.le_of_ble_eq_true rfl, Nat.le_of_ble_eq_true rfl⟩) hS (fun q _ h => hFc q h) hFc (fun r63 u t H locs ht hvm w64 hB hz1 hk1 hS => ?_)
            obtain ⟨hP1, hD1⟩ := hB
            try dsimp only at w64
            obtain ⟨hPa, hDa⟩ := hJn (w1 := [(m0, .inr (11, oX11 ra y34)), (ra 2, .inl (kI, 8, .inl q_told)), (ra 8, .inl (kI, 40, .inl q_from)), (ra 9, .inl (kI, 40, .inl q_to))]) hk1 ht hP1 hD1
            clear hP hD hPc hDc hFc hJn hP1 hD1 hk1
            have hP : va_P (dC, dI) vwCl [(ra 13, .inl (kI, 700, .inl q_tape)), (m0, .inr (11, oX11 ra y34)), (ra 2, .inl (kI, 8, .inl q_told)), (ra 8, .inl (kI, 40, .inl q_from)), (ra 9, .inl (kI, 40, .inl q_to))] H := hPa
            have hD : va_D A [(ra 13, .inl (kI, 700, .inl q_tape)), (m0, .inr (11, oX11 ra y34)), (ra 2, .inl (kI, 8, .inl q_told)), (ra 8, .inl (kI, 40, .inl q_from)), (ra 9, .inl (kI, 40, .inl q_to))] := hDa
            clear hPa hDa
            refine W.widen (k := 0) (n := 0) (Nat.le_of_ble_eq_true rfl) (Nat.le_of_ble_eq_true rfl) ?_
            have hh9 := w64.2
            refine lv_if_eq (tgt := 96) hx hb dX11_readLink_88 rfl (fun c65 => ?_) (fun c65 => ?_)
            · have b66 : iv 0 0 r63 := iv_eqL c65 ivk_0
              have hok9 := rr_ok hq38 c43
              have hb9 := hv8 hok9
              have ha9 := hv9 (ok_ite (ok_next (ok_num (ok_rou hok9)))).1
              have hrr67 : RRd tT nN y34 (iteT (lnkB tT nN sS (q_told 4) (q_told 5) (shT 20 q_from) ≤ lnkA tT nN sS ∨ hasT (shT 20 q_from) (shT 20 q_to) (q_told 5) (lnkA tT nN sS) (lnkB tT nN sS (q_told 4) (q_told 5) (shT 20 q_from))) (failT 5 (lnk3 tT nN sS (q_told 4) (q_told 5) (shT 20 q_from))) (lnk3 tT nN sS (q_told 4) (q_told 5) (shT 20 q_from))) := it_f (Q := RRd tT nN y34) (by have q := (hh9.resolve_right (fun w => w.1 c65)).2; have q2 := Int32.not_le.mpr (Int32.not_le.mp c47); rw [ha9, hb9] at q q2; exact fun w => w.elim q2 q) (hq38)
              refine lv_aload_n hx hb dX11_readLink_96 rfl (lv_at hl 2 rfl) ?_
              refine va_get (D := (dC, dI)) (ci := 11) (v := .int (y34 8)) (C := RX11) (T := TX11) (N := 61) hx hb hts hin11 hown hK hP 1 rfl rfl 22 (Nat.le_of_ble_eq_true rfl) hw_1 (fun _ h9 => h9) rfl dX11_readLink_97 ?_
              refine lv_if_eq (tgt := 104) hx hb dX11_readLink_100 rfl (fun _ => ?_) (fun c9 => absurd (c43) c9)
              refine lv_aload_n hx hb dX11_readLink_104 rfl (lv_at hl 2 rfl) ?_
              obtain ⟨hPc, hDc, hFc, hJn⟩ := cl_a (wc := [(m0, .inr (11, oX11 ra y34)), (ra 13, .inl (kI, 700, .inl q_tape))]) (wr := [(ra 2, .inl (kI, 8, .inl q_told)), (ra 8, .inl (kI, 40, .inl q_from)), (ra 9, .inl (kI, 40, .inl q_to))]) hP hD hS hA [1, 0] [2, 3, 4] rfl rfl (by decide +kernel)
              refine va_callv (va_runV (As := []) (rest := []) ⟨hx, hb, hml, hown, hts⟩ (s11_stepOn l dC dI kB kI kJ kZ kC kS H.size m0 ra y34 q_tape tT nN (nextT tT nN (iteT (lnkB tT nN sS (q_told 4) (q_told 5) (shT 20 q_from) ≤ lnkA tT nN sS ∨ hasT (shT 20 q_from) (shT 20 q_to) (q_told 5) (lnkA tT nN sS) (lnkB tT nN sS (q_told 4) (q_told 5) (shT 20 q_from))) (failT 5 (lnk3 tT nN sS (q_told 4) (q_told 5) (shT 20 q_from))) (lnk3 tT nN sS (q_told 4) (q_told 5) (shT 20 q_from)))) (hq35) (hq_tape) (hrr67.2) (stp_of hrr67) (hTQ)) (cwV 0 hts gX11_readLink_X11_stepOn rfl rfl rfl (by decide +kernel) ⟨Nat.le_of_ble_eq_true rfl, Nat.le_of_ble_eq_true rfl⟩) ⟨fun a U g mk q => by obtain ⟨q0, q1, qP, qE, qD⟩ := q; exact ⟨q0, q1, qP, kE_call qE, qD⟩, va_recv hK hP (ci := 11) (q0 := 1) rfl rfl, fun U hU hW => ⟨rfl, by rw [hU], by rw [hU]; exact hPc, kE_warm hW hE, hDc.weaken (fun _ _ _ _ => trivial)⟩⟩ rfl rfl hl.1 rfl (lv_room (Nat.le_of_ble_eq_true rfl)) dX11_readLink_105 ⟨Nat.le_of_ble_eq_true rfl, Nat.le_of_ble_eq_true rfl⟩) hS (fun q _ h => hFc q h) hFc (fun u t H locs ht hvm w69 hB hz1 hk1 hS => ?_)
              obtain ⟨y70, hq71, hq72, hq73, hq74, hq75, hq76, hq77, hq78, hq79, hP1, hD1⟩ := hB
              try dsimp only at w69
              obtain ⟨hPa, hDa⟩ := hJn (w1 := [(m0, .inr (11, oX11 ra y70)), (ra 13, .inl (kI, 700, .inl q_tape))]) hk1 ht hP1 hD1
              clear hP hD hPc hDc hFc hJn hP1 hD1 hk1
              have hP : va_P (dC, dI) vwCl [(ra 2, .inl (kI, 8, .inl q_told)), (ra 8, .inl (kI, 40, .inl q_from)), (ra 9, .inl (kI, 40, .inl q_to)), (m0, .inr (11, oX11 ra y70)), (ra 13, .inl (kI, 700, .inl q_tape))] H := hPa
              have hD : va_D A [(ra 2, .inl (kI, 8, .inl q_told)), (ra 8, .inl (kI, 40, .inl q_from)), (ra 9, .inl (kI, 40, .inl q_to)), (m0, .inr (11, oX11 ra y70)), (ra 13, .inl (kI, 700, .inl q_tape))] := hDa
              clear hPa hDa
              refine W.widen (k := 0) (n := 0) (Nat.le_of_ble_eq_true rfl) (Nat.le_of_ble_eq_true rfl) ?_
              refine lv_aload_n hx hb dX11_readLink_108 rfl (lv_at hl 2 rfl) ?_
              refine va_get (D := (dC, dI)) (ci := 11) (v := .ref (ra 8)) (C := RX11) (T := TX11) (N := 61) hx hb hts hin11 hown hK hP 3 rfl rfl 9 (Nat.le_of_ble_eq_true rfl) hw_2 (fun _ h9 => h9) rfl dX11_readLink_109 ?_
              refine lv_bipush (v := 20) hx hb dX11_readLink_112 bp_20 ?_
              refine lv_aload_n hx hb dX11_readLink_114 rfl (lv_at hl 2 rfl) ?_
              refine va_get (D := (dC, dI)) (ci := 11) (v := .ref (ra 2)) (C := RX11) (T := TX11) (N := 61) hx hb hts hin11 hown hK hP 3 rfl rfl 3 (Nat.le_of_ble_eq_true rfl) hw_0 (fun _ h9 => h9) rfl dX11_readLink_115 ?_
              refine lv_iconst (v := 5) hx hb dX11_readLink_118 ic_5 ?_
              refine va_iald hx hb hK hP 0 1 rfl rfl (vp_in_nI (n := 5) (by decide) (by decide)) dX11_readLink_119 ?_
              refine W.eq (g2 := F0 m 120 ls [.int (q_told 5), .int 20, .ref (ra 8)]) rfl ?_
              refine lv_iadd hx hb dX11_readLink_120 ?_
              have b80 : iv 20 39 (20 + (q_told 5)) := iv_add ivk_20 b2 (by decide) (by decide) (by decide) (by decide)
              refine lv_iload_n hx hb dX11_readLink_121 rfl (lv_at hl 1 rfl) ?_
              refine va_iast hx hb hK hP hD hS 1 1 rfl rfl (iv_in b80 (by decide) (by decide)) dX11_readLink_122 (fun H locs hPa hDa hS => ?_)
              clear hP hD
              have hP : va_P (dC, dI) vwCl [(ra 2, .inl (kI, 8, .inl q_told)), (ra 8, .inl (kI, 40, .inl (upd q_from (20 + (q_told 5)).toNatClampNeg r17))), (ra 9, .inl (kI, 40, .inl q_to)), (m0, .inr (11, oX11 ra y70)), (ra 13, .inl (kI, 700, .inl q_tape))] H := hPa
              have hD : va_D A [(ra 2, .inl (kI, 8, .inl q_told)), (ra 8, .inl (kI, 40, .inl (upd q_from (20 + (q_told 5)).toNatClampNeg r17))), (ra 9, .inl (kI, 40, .inl q_to)), (m0, .inr (11, oX11 ra y70)), (ra 13, .inl (kI, 700, .inl q_tape))] := hDa
              clear hPa hDa
              refine lv_aload_n hx hb dX11_readLink_123 rfl (lv_at hl 2 rfl) ?_
              refine va_get (D := (dC, dI)) (ci := 11) (v := .ref (ra 9)) (C := RX11) (T := TX11) (N := 61) hx hb hts hin11 hown hK hP 3 rfl rfl 10 (Nat.le_of_ble_eq_true rfl) hw_3 (fun _ h9 => h9) rfl dX11_readLink_124 ?_
              refine lv_bipush (v := 20) hx hb dX11_readLink_127 bp_20 ?_
              refine lv_aload_n hx hb dX11_readLink_129 rfl (lv_at hl 2 rfl) ?_
              refine va_get (D := (dC, dI)) (ci := 11) (v := .ref (ra 2)) (C := RX11) (T := TX11) (N := 61) hx hb hts hin11 hown hK hP 3 rfl rfl 3 (Nat.le_of_ble_eq_true rfl) hw_0 (fun _ h9 => h9) rfl dX11_readLink_130 ?_
              refine lv_iconst (v := 5) hx hb dX11_readLink_133 ic_5 ?_
              refine va_iald hx hb hK hP 0 1 rfl rfl (vp_in_nI (n := 5) (by decide) (by decide)) dX11_readLink_134 ?_
              refine W.eq (g2 := F0 m 135 ls [.int (q_told 5), .int 20, .ref (ra 9)]) rfl ?_
              refine lv_iadd hx hb dX11_readLink_135 ?_
              have b81 : iv 20 39 (20 + (q_told 5)) := iv_add ivk_20 b2 (by decide) (by decide) (by decide) (by decide)
              refine lv_iload_n hx hb dX11_readLink_136 rfl (lv_at hl 0 rfl) ?_
              refine va_iast hx hb hK hP hD hS 2 1 rfl rfl (iv_in b81 (by decide) (by decide)) dX11_readLink_137 (fun H locs hPa hDa hS => ?_)
              clear hP hD
              have hP : va_P (dC, dI) vwCl [(ra 2, .inl (kI, 8, .inl q_told)), (ra 8, .inl (kI, 40, .inl (upd q_from (20 + (q_told 5)).toNatClampNeg r17))), (ra 9, .inl (kI, 40, .inl (upd q_to (20 + (q_told 5)).toNatClampNeg r32))), (m0, .inr (11, oX11 ra y70)), (ra 13, .inl (kI, 700, .inl q_tape))] H := hPa
              have hD : va_D A [(ra 2, .inl (kI, 8, .inl q_told)), (ra 8, .inl (kI, 40, .inl (upd q_from (20 + (q_told 5)).toNatClampNeg r17))), (ra 9, .inl (kI, 40, .inl (upd q_to (20 + (q_told 5)).toNatClampNeg r32))), (m0, .inr (11, oX11 ra y70)), (ra 13, .inl (kI, 700, .inl q_tape))] := hDa
              clear hPa hDa
              refine lv_aload_n hx hb dX11_readLink_138 rfl (lv_at hl 2 rfl) ?_
              refine va_get (D := (dC, dI)) (ci := 11) (v := .ref (ra 2)) (C := RX11) (T := TX11) (N := 61) hx hb hts hin11 hown hK hP 3 rfl rfl 3 (Nat.le_of_ble_eq_true rfl) hw_0 (fun _ h9 => h9) rfl dX11_readLink_139 ?_
              refine lv_iconst (v := 5) hx hb dX11_readLink_142 ic_5 ?_
              refine lv_dup2_11 hx hb dX11_readLink_143 rfl rfl ?_
              refine va_iald hx hb hK hP 0 1 rfl rfl (vp_in_nI (n := 5) (by decide) (by decide)) dX11_readLink_144 ?_
              refine W.eq (g2 := F0 m 145 ls [.int (q_told 5), .int 5, .ref (ra 2)]) rfl ?_
              refine lv_iconst (v := 1) hx hb dX11_readLink_145 ic_1 ?_
              refine lv_iadd hx hb dX11_readLink_146 ?_
              have b82 : iv 1 20 ((q_told 5) + 1) := iv_add b2 ivk_1 (by decide) (by decide) (by decide) (by decide)
              refine va_iast hx hb hK hP hD hS 0 1 rfl rfl (vp_in_nI (n := 5) (by decide) (by decide)) dX11_readLink_147 (fun H locs hPa hDa hS => ?_)
              clear hP hD
              have hP : va_P (dC, dI) vwCl [(ra 2, .inl (kI, 8, .inl (upd q_told 5 ((q_told 5) + 1)))), (ra 8, .inl (kI, 40, .inl (upd q_from (20 + (q_told 5)).toNatClampNeg r17))), (ra 9, .inl (kI, 40, .inl (upd q_to (20 + (q_told 5)).toNatClampNeg r32))), (m0, .inr (11, oX11 ra y70)), (ra 13, .inl (kI, 700, .inl q_tape))] H := hPa
              have hD : va_D A [(ra 2, .inl (kI, 8, .inl (upd q_told 5 ((q_told 5) + 1)))), (ra 8, .inl (kI, 40, .inl (upd q_from (20 + (q_told 5)).toNatClampNeg r17))), (ra 9, .inl (kI, 40, .inl (upd q_to (20 + (q_told 5)).toNatClampNeg r32))), (m0, .inr (11, oX11 ra y70)), (ra 13, .inl (kI, 700, .inl q_tape))] := hDa
              clear hPa hDa
              have hPD9 := cl_s (wc := [(m0, .inr (11, oX11 ra y70)), (ra 2, .inl (kI, 8, .inl (upd q_told 5 ((q_told 5) + 1)))), (ra 8, .inl (kI, 40, .inl (upd q_from (20 + (q_told 5)).toNatClampNeg r17))), (ra 9, .inl (kI, 40, .inl (upd q_to (20 + (q_told 5)).toNatClampNeg r32))), (ra 13, .inl (kI, 700, .inl q_tape))]) hP hD [3, 0, 1, 2, 4] rfl (by decide +kernel)
              have hP9 := hPD9.1
              have hD9 := hPD9.2
              exact W.vret hx hb hr (fun t ht hW => ⟨⟨(), rfl, trivial, y70, upd q_told 5 ((q_told 5) + 1), upd q_from (20 + (q_told 5)).toNatClampNeg r17, upd q_to (20 + (q_told 5)).toNatClampNeg r32, hq71, (fI_u hq_told (k := 5) ((iv_w b82 (by decide) (by decide)))), (fI_u hq_from (k := (20 + (q_told 5)).toNatClampNeg) ((iv_w b61 (by decide) (by decide)))), (fI_u hq_to (k := (20 + (q_told 5)).toNatClampNeg) ((iv_w b62 (by decide) (by decide)))), (show (x0 2).toInt ≤ (y70 2).toInt from by omega), (show y70 3 = x0 3 from hq73.trans (hq37.trans (hq22.trans (hq10)))), lk_lt hLT (hq_told 1) (hq_told 5), lk_ld hLD b2 (Int32.not_le.mp c47), (show RRd tT nN y70 (lnkS tT nN sS (q_told 4) (q_told 5) (shT 20 q_from) (shT 20 q_to)) from it_f (Q := RRd tT nN y70) c1 (hq75)), fun _ => ⟨rfl, congrArg (upd q_from ((20 + (q_told 5)).toNatClampNeg)) (hv9 (ok_ite (ok_next (ok_num (ok_rou (ok_ite (rr_ok hrr67 c43)).1)))).1), congrArg (upd q_to ((20 + (q_told 5)).toNatClampNeg)) (hv8 (ok_ite (rr_ok hrr67 c43)).1)⟩, low_l (by decide) (iv_w b2 (by decide) (by decide)), (show y70 1 = x0 1 from hq76.trans (hq39.trans (hq24.trans (hq13)))), (show y70 10 = x0 10 from hq77.trans (hq40.trans (hq25.trans (hq14)))), (show y70 11 = x0 11 from hq78.trans (hq41.trans (hq26.trans (hq15)))), (show y70 14 = x0 14 from hq79.trans (hq42.trans (hq27.trans (hq16)))), by rw [ht]; exact hP9, hD9⟩, hS.F ht⟩) hS.2.2 dX11_readLink_148
            · have b83 : iv 1 1 r63 := iv_neLo c65 w64.1 ivk_0 (by decide) (by decide)
              refine lv_aload_n hx hb dX11_readLink_91 rfl (lv_at hl 2 rfl) ?_
              refine lv_iconst (v := 5) hx hb dX11_readLink_92 ic_5 ?_
              obtain ⟨hPc, hDc, hFc, hJn⟩ := cl_a (wc := [(m0, .inr (11, oX11 ra y34))]) (wr := [(ra 13, .inl (kI, 700, .inl q_tape)), (ra 2, .inl (kI, 8, .inl q_told)), (ra 8, .inl (kI, 40, .inl q_from)), (ra 9, .inl (kI, 40, .inl q_to))]) hP hD hS hA [1] [0, 2, 3, 4] rfl rfl (by decide +kernel)
              refine va_callv (va_runV (As := [.int 5]) (rest := []) ⟨hx, hb, hml, hown, hts⟩ (s11_wrong l dC dI kB kI kJ kZ kC kS H.size m0 ra y34 5 tT nN (rouT tT (q_told 4) (lnk2 tT nN sS (q_told 4) (q_told 5) (shT 20 q_from))) (hq35) ((iv_w ivk_5 (by decide) (by decide))) (hq38)) (cwV 1 hts gX11_readLink_X11_wrong rfl rfl rfl (by decide +kernel) ⟨Nat.le_of_ble_eq_true rfl, Nat.le_of_ble_eq_true rfl⟩) ⟨fun a U g mk q => by obtain ⟨q0, q1, qP, qE, qD⟩ := q; exact ⟨q0, q1, qP, kE_call qE, qD⟩, va_recv hK hP (ci := 11) (q0 := 1) rfl rfl, fun U hU hW => ⟨rfl, by rw [hU], by rw [hU]; exact hPc, kE_warm hW hE, hDc.weaken (fun _ _ _ _ => trivial)⟩⟩ rfl rfl hl.1 rfl (lv_room (Nat.le_of_ble_eq_true rfl)) dX11_readLink_93 ⟨Nat.le_of_ble_eq_true rfl, Nat.le_of_ble_eq_true rfl⟩) hS (fun q _ h => hFc q h) hFc (fun u t H locs ht hvm w85 hB hz1 hk1 hS => ?_)
              obtain ⟨y86, hq87, hq88, hq89, hq90, hq91, hq92, hq93, hq94, hq95, hP1, hD1⟩ := hB
              try dsimp only at w85
              obtain ⟨hPa, hDa⟩ := hJn (w1 := [(m0, .inr (11, oX11 ra y86))]) hk1 ht hP1 hD1
              clear hP hD hPc hDc hFc hJn hP1 hD1 hk1
              have hP : va_P (dC, dI) vwCl [(ra 13, .inl (kI, 700, .inl q_tape)), (ra 2, .inl (kI, 8, .inl q_told)), (ra 8, .inl (kI, 40, .inl q_from)), (ra 9, .inl (kI, 40, .inl q_to)), (m0, .inr (11, oX11 ra y86))] H := hPa
              have hD : va_D A [(ra 13, .inl (kI, 700, .inl q_tape)), (ra 2, .inl (kI, 8, .inl q_told)), (ra 8, .inl (kI, 40, .inl q_from)), (ra 9, .inl (kI, 40, .inl q_to)), (m0, .inr (11, oX11 ra y86))] := hDa
              clear hPa hDa
              refine W.widen (k := 0) (n := 0) (Nat.le_of_ble_eq_true rfl) (Nat.le_of_ble_eq_true rfl) ?_
              have hok9 := rr_ok hq38 c43
              have hb9 := hv8 hok9
              have ha9 := hv9 (ok_ite (ok_next (ok_num (ok_rou hok9)))).1
              have hrr96 : RRd tT nN y86 (iteT (lnkB tT nN sS (q_told 4) (q_told 5) (shT 20 q_from) ≤ lnkA tT nN sS ∨ hasT (shT 20 q_from) (shT 20 q_to) (q_told 5) (lnkA tT nN sS) (lnkB tT nN sS (q_told 4) (q_told 5) (shT 20 q_from))) (failT 5 (lnk3 tT nN sS (q_told 4) (q_told 5) (shT 20 q_from))) (lnk3 tT nN sS (q_told 4) (q_told 5) (shT 20 q_from))) := it_t (Q := RRd tT nN y86) (Or.inr (by have q := (hh9.resolve_left (fun w => c65 w.1)).2; rw [ha9, hb9] at q; exact q)) (hq91)
              refine lv_aload_n hx hb dX11_readLink_96 rfl (lv_at hl 2 rfl) ?_
              refine va_get (D := (dC, dI)) (ci := 11) (v := .int (y86 8)) (C := RX11) (T := TX11) (N := 61) hx hb hts hin11 hown hK hP 4 rfl rfl 22 (Nat.le_of_ble_eq_true rfl) hw_1 (fun _ h9 => h9) rfl dX11_readLink_97 ?_
              refine lv_if_eq (tgt := 104) hx hb dX11_readLink_100 rfl (fun c9 => absurd c9 (iv_ne hq88 ivk_0 (by decide))) (fun _ => ?_)
              have hPD9 := cl_s (wc := [(m0, .inr (11, oX11 ra y86)), (ra 2, .inl (kI, 8, .inl q_told)), (ra 8, .inl (kI, 40, .inl q_from)), (ra 9, .inl (kI, 40, .inl q_to)), (ra 13, .inl (kI, 700, .inl q_tape))]) hP hD [4, 1, 2, 3, 0] rfl (by decide +kernel)
              have hP9 := hPD9.1
              have hD9 := hPD9.2
              exact W.vret hx hb hr (fun t ht hW => ⟨⟨(), rfl, trivial, y86, q_told, q_from, q_to, hq87, hq_told, hq_from, hq_to, (show (x0 2).toInt ≤ (y86 2).toInt from by omega), (show y86 3 = x0 3 from hq90.trans (hq37.trans (hq22.trans (hq10)))), (show ∀ j : Nat, (j : Int) < (q_told 1).toInt → (q_from j).toInt < (q_to j).toInt from hLT), (show ∀ j : Nat, (j : Int) < (q_told 5).toInt → (q_from (20 + j)).toInt < (q_to (20 + j)).toInt from hLD), (show RRd tT nN y86 (lnkS tT nN sS (q_told 4) (q_told 5) (shT 20 q_from) (shT 20 q_to)) from it_f (Q := RRd tT nN y86) c1 ((rr_stepN hrr96 (iv_ne hq88 ivk_0 (by decide))))), (show y86 8 = 0 → q_told = upd q_told 5 (q_told 5 + 1) ∧ q_from = upd q_from ((20 + (q_told 5)).toNatClampNeg) (lnkA tT nN sS) ∧ q_to = upd q_to ((20 + (q_told 5)).toNatClampNeg) (lnkB tT nN sS (q_told 4) (q_told 5) (shT 20 q_from)) from fun w => absurd w (iv_ne hq88 ivk_0 (by decide))), (show LowT q_told q_from q_to q_told q_from q_to from low_0), (show y86 1 = x0 1 from hq92.trans (hq39.trans (hq24.trans (hq13)))), (show y86 10 = x0 10 from hq93.trans (hq40.trans (hq25.trans (hq14)))), (show y86 11 = x0 11 from hq94.trans (hq41.trans (hq26.trans (hq15)))), (show y86 14 = x0 14 from hq95.trans (hq42.trans (hq27.trans (hq16)))), by rw [ht]; exact hP9, hD9⟩, hS.F ht⟩) hS.2.2 dX11_readLink_103
      · have b97 : iv 0 0 (y19 8) := iv_eqL c28 ivk_0
        refine lv_aload_n hx hb dX11_readLink_40 rfl (lv_at hl 1 rfl) ?_
        refine lv_iload_n hx hb dX11_readLink_41 rfl (lv_at hl 0 rfl) ?_
        obtain ⟨hPc, hDc, hFc, hJn⟩ := cl_a (wc := [(m0, .inr (11, oX11 ra y19)), (ra 2, .inl (kI, 8, .inl q_told)), (ra 8, .inl (kI, 40, .inl q_from))]) (wr := [(ra 9, .inl (kI, 40, .inl q_to)), (ra 13, .inl (kI, 700, .inl q_tape))]) hP hD hS hA [3, 4, 0] [1, 2] rfl rfl (by decide +kernel)
        refine va_calli (va_runV (As := [.int r17]) (rest := []) ⟨hx, hb, hml, hown, hts⟩ (s11_linksFrom l dC dI kB kI kJ kZ kC kS H.size m0 ra y19 q_told q_from r17 (hq20) (hq_told) (hq_from)) (cwV 1 hts gX11_readLink_X11_linksFrom rfl rfl rfl (by decide +kernel) ⟨Nat.le_of_ble_eq_true rfl, Nat.le_of_ble_eq_true rfl⟩) ⟨fun a U g mk q => by obtain ⟨q0, q1, qP, qE, qD⟩ := q; exact ⟨q0, q1, qP, kE_call qE, qD⟩, va_recv hK hP (ci := 11) (q0 := 3) rfl rfl, fun U hU hW => ⟨rfl, by rw [hU], by rw [hU]; exact hPc, kE_warm hW hE, hDc.weaken (fun _ _ _ _ => trivial)⟩⟩ rfl rfl hl.1 rfl (lv_room (Nat.le_of_ble_eq_true rfl)) dX11_readLink_42 ⟨Nat.le_of_ble_eq_true rfl, Nat.le_of_ble_eq_true rfl⟩) hS (fun q _ h => hFc q h) hFc (fun r98 u t H locs ht hvm w99 hB hz1 hk1 hS => ?_)
        obtain ⟨hP1, hD1⟩ := hB
        try dsimp only at w99
        obtain ⟨hPa, hDa⟩ := hJn (w1 := [(m0, .inr (11, oX11 ra y19)), (ra 2, .inl (kI, 8, .inl q_told)), (ra 8, .inl (kI, 40, .inl q_from))]) hk1 ht hP1 hD1
        clear hP hD hPc hDc hFc hJn hP1 hD1 hk1
        have hP : va_P (dC, dI) vwCl [(ra 9, .inl (kI, 40, .inl q_to)), (ra 13, .inl (kI, 700, .inl q_tape)), (m0, .inr (11, oX11 ra y19)), (ra 2, .inl (kI, 8, .inl q_told)), (ra 8, .inl (kI, 40, .inl q_from))] H := hPa
        have hD : va_D A [(ra 9, .inl (kI, 40, .inl q_to)), (ra 13, .inl (kI, 700, .inl q_tape)), (m0, .inr (11, oX11 ra y19)), (ra 2, .inl (kI, 8, .inl q_told)), (ra 8, .inl (kI, 40, .inl q_from))] := hDa
        clear hPa hDa
        refine W.widen (k := 0) (n := 0) (Nat.le_of_ble_eq_true rfl) (Nat.le_of_ble_eq_true rfl) ?_
        obtain ⟨w99, b100⟩ := w99
        subst w99
        refine lv_iconst (v := 4) hx hb dX11_readLink_45 ic_4 ?_
        refine lv_icmp_ne (tgt := 54) hx hb dX11_readLink_46 rfl (fun c101 => ?_) (fun c101 => ?_)
        · have ha9 := hv9 (rr_ok hq23 c28)
          have hrr102 : RRd tT nN y19 (iteT (cntT (shT 20 q_from) (lnkA tT nN sS) (q_told 5).toNatClampNeg = 4) (failT 2 (lnk1 tT nN sS (q_told 4))) (lnk1 tT nN sS (q_told 4))) := it_f (Q := RRd tT nN y19) (by have q := c101; rw [ha9] at q; exact ct_4n q) (hq23)
          refine lv_aload_n hx hb dX11_readLink_54 rfl (lv_at hl 1 rfl) ?_
          refine va_get (D := (dC, dI)) (ci := 11) (v := .int (y19 8)) (C := RX11) (T := TX11) (N := 61) hx hb hts hin11 hown hK hP 2 rfl rfl 22 (Nat.le_of_ble_eq_true rfl) hw_1 (fun _ h9 => h9) rfl dX11_readLink_55 ?_
          refine lv_if_ne (tgt := 65) hx hb dX11_readLink_58 rfl (fun c9 => absurd (c28) c9) (fun _ => ?_)
          refine lv_aload_n hx hb dX11_readLink_61 rfl (lv_at hl 1 rfl) ?_
          obtain ⟨hPc, hDc, hFc, hJn⟩ := cl_a (wc := [(m0, .inr (11, oX11 ra y19)), (ra 13, .inl (kI, 700, .inl q_tape))]) (wr := [(ra 9, .inl (kI, 40, .inl q_to)), (ra 2, .inl (kI, 8, .inl q_told)), (ra 8, .inl (kI, 40, .inl q_from))]) hP hD hS hA [2, 1] [0, 3, 4] rfl rfl (by decide +kernel)
          refine va_callv (va_runV (As := []) (rest := []) ⟨hx, hb, hml, hown, hts⟩ (s11_stepOn l dC dI kB kI kJ kZ kC kS H.size m0 ra y19 q_tape tT nN (nextT tT nN (iteT (cntT (shT 20 q_from) (lnkA tT nN sS) (q_told 5).toNatClampNeg = 4) (failT 2 (lnk1 tT nN sS (q_told 4))) (lnk1 tT nN sS (q_told 4)))) (hq20) (hq_tape) (hrr102.2) (stp_of hrr102) (hTQ)) (cwV 0 hts gX11_readLink_X11_stepOn rfl rfl rfl (by decide +kernel) ⟨Nat.le_of_ble_eq_true rfl, Nat.le_of_ble_eq_true rfl⟩) ⟨fun a U g mk q => by obtain ⟨q0, q1, qP, qE, qD⟩ := q; exact ⟨q0, q1, qP, kE_call qE, qD⟩, va_recv hK hP (ci := 11) (q0 := 2) rfl rfl, fun U hU hW => ⟨rfl, by rw [hU], by rw [hU]; exact hPc, kE_warm hW hE, hDc.weaken (fun _ _ _ _ => trivial)⟩⟩ rfl rfl hl.1 rfl (lv_room (Nat.le_of_ble_eq_true rfl)) dX11_readLink_62 ⟨Nat.le_of_ble_eq_true rfl, Nat.le_of_ble_eq_true rfl⟩) hS (fun q _ h => hFc q h) hFc (fun u t H locs ht hvm w104 hB hz1 hk1 hS => ?_)
          obtain ⟨y105, hq106, hq107, hq108, hq109, hq110, hq111, hq112, hq113, hq114, hP1, hD1⟩ := hB
          try dsimp only at w104
          obtain ⟨hPa, hDa⟩ := hJn (w1 := [(m0, .inr (11, oX11 ra y105)), (ra 13, .inl (kI, 700, .inl q_tape))]) hk1 ht hP1 hD1
          clear hP hD hPc hDc hFc hJn hP1 hD1 hk1
          have hP : va_P (dC, dI) vwCl [(ra 9, .inl (kI, 40, .inl q_to)), (ra 2, .inl (kI, 8, .inl q_told)), (ra 8, .inl (kI, 40, .inl q_from)), (m0, .inr (11, oX11 ra y105)), (ra 13, .inl (kI, 700, .inl q_tape))] H := hPa
          have hD : va_D A [(ra 9, .inl (kI, 40, .inl q_to)), (ra 2, .inl (kI, 8, .inl q_told)), (ra 8, .inl (kI, 40, .inl q_from)), (m0, .inr (11, oX11 ra y105)), (ra 13, .inl (kI, 700, .inl q_tape))] := hDa
          clear hPa hDa
          refine W.widen (k := 0) (n := 0) (Nat.le_of_ble_eq_true rfl) (Nat.le_of_ble_eq_true rfl) ?_
          have hrr115 : RRd tT nN y105 (lnk2 tT nN sS (q_told 4) (q_told 5) (shT 20 q_from)) := hq110
          refine lv_aload_n hx hb dX11_readLink_65 rfl (lv_at hl 1 rfl) ?_
          obtain ⟨hPc, hDc, hFc, hJn⟩ := cl_a (wc := [(m0, .inr (11, oX11 ra y105)), (ra 2, .inl (kI, 8, .inl q_told))]) (wr := [(ra 9, .inl (kI, 40, .inl q_to)), (ra 8, .inl (kI, 40, .inl q_from)), (ra 13, .inl (kI, 700, .inl q_tape))]) hP hD hS hA [3, 1] [0, 2, 4] rfl rfl (by decide +kernel)
          refine va_calli (va_runV (As := []) (rest := []) ⟨hx, hb, hml, hown, hts⟩ (s11_routerNow l dC dI kB kI kJ kZ kC kS H.size m0 ra y105 q_told tT nN (lnk2 tT nN sS (q_told 4) (q_told 5) (shT 20 q_from)) (hq106) (hq_told) (hrr115)) (cwV 0 hts gX11_readLink_X11_routerNow rfl rfl rfl (by decide +kernel) ⟨Nat.le_of_ble_eq_true rfl, Nat.le_of_ble_eq_true rfl⟩) ⟨fun a U g mk q => by obtain ⟨q0, q1, qP, qE, qD⟩ := q; exact ⟨q0, q1, qP, kE_call qE, qD⟩, va_recv hK hP (ci := 11) (q0 := 3) rfl rfl, fun U hU hW => ⟨rfl, by rw [hU], by rw [hU]; exact hPc, kE_warm hW hE, hDc.weaken (fun _ _ _ _ => trivial)⟩⟩ rfl rfl hl.1 rfl (lv_room (Nat.le_of_ble_eq_true rfl)) dX11_readLink_66 ⟨Nat.le_of_ble_eq_true rfl, Nat.le_of_ble_eq_true rfl⟩) hS (fun q _ h => hFc q h) hFc (fun r116 u t H locs ht hvm w117 hB hz1 hk1 hS => ?_)
          obtain ⟨y118, hq119, hq120, hq121, hq122, hq123, hq124, hq125, hq126, hP1, hD1⟩ := hB
          try dsimp only at w117
          obtain ⟨hPa, hDa⟩ := hJn (w1 := [(m0, .inr (11, oX11 ra y118)), (ra 2, .inl (kI, 8, .inl q_told))]) hk1 ht hP1 hD1
          clear hP hD hPc hDc hFc hJn hP1 hD1 hk1
          have hP : va_P (dC, dI) vwCl [(ra 9, .inl (kI, 40, .inl q_to)), (ra 8, .inl (kI, 40, .inl q_from)), (ra 13, .inl (kI, 700, .inl q_tape)), (m0, .inr (11, oX11 ra y118)), (ra 2, .inl (kI, 8, .inl q_told))] H := hPa
          have hD : va_D A [(ra 9, .inl (kI, 40, .inl q_to)), (ra 8, .inl (kI, 40, .inl q_from)), (ra 13, .inl (kI, 700, .inl q_tape)), (m0, .inr (11, oX11 ra y118)), (ra 2, .inl (kI, 8, .inl q_told))] := hDa
          clear hPa hDa
          refine W.widen (k := 0) (n := 0) (Nat.le_of_ble_eq_true rfl) (Nat.le_of_ble_eq_true rfl) ?_
          have hv8 := w117.2
          refine lv_istore_n (lv' := [(2, .int r116), (1, .int r17), (0, .ref m0)]) hx hb dX11_readLink_69 rfl hl (Nat.le_of_ble_eq_true rfl) rfl (fun ls hl => ?_)
          refine lv_aload_n hx hb dX11_readLink_70 rfl (lv_at hl 2 rfl) ?_
          refine va_get (D := (dC, dI)) (ci := 11) (v := .int (y118 8)) (C := RX11) (T := TX11) (N := 61) hx hb hts hin11 hown hK hP 3 rfl rfl 22 (Nat.le_of_ble_eq_true rfl) hw_1 (fun _ h9 => h9) rfl dX11_readLink_71 ?_
          refine lv_if_ne (tgt := 96) hx hb dX11_readLink_74 rfl (fun c127 => ?_) (fun c127 => ?_)
          · have b128 : iv 1 5 (y118 8) := iv_neLo c127 (hq119 8 : iv 0 5 (y118 8)) ivk_0 (by decide) (by decide)
            have hrr129 : RRd tT nN y118 (iteT (lnkB tT nN sS (q_told 4) (q_told 5) (shT 20 q_from) ≤ lnkA tT nN sS ∨ hasT (shT 20 q_from) (shT 20 q_to) (q_told 5) (lnkA tT nN sS) (lnkB tT nN sS (q_told 4) (q_told 5) (shT 20 q_from))) (failT 5 (lnk3 tT nN sS (q_told 4) (q_told 5) (shT 20 q_from))) (lnk3 tT nN sS (q_told 4) (q_told 5) (shT 20 q_from))) := ite_r hq122 c127 ▸ hq122
            refine lv_aload_n hx hb dX11_readLink_96 rfl (lv_at hl 2 rfl) ?_
            refine va_get (D := (dC, dI)) (ci := 11) (v := .int (y118 8)) (C := RX11) (T := TX11) (N := 61) hx hb hts hin11 hown hK hP 3 rfl rfl 22 (Nat.le_of_ble_eq_true rfl) hw_1 (fun _ h9 => h9) rfl dX11_readLink_97 ?_
            refine lv_if_eq (tgt := 104) hx hb dX11_readLink_100 rfl (fun c9 => absurd c9 (c127)) (fun _ => ?_)
            have hPD9 := cl_s (wc := [(m0, .inr (11, oX11 ra y118)), (ra 2, .inl (kI, 8, .inl q_told)), (ra 8, .inl (kI, 40, .inl q_from)), (ra 9, .inl (kI, 40, .inl q_to)), (ra 13, .inl (kI, 700, .inl q_tape))]) hP hD [3, 4, 1, 0, 2] rfl (by decide +kernel)
            have hP9 := hPD9.1
            have hD9 := hPD9.2
            exact W.vret hx hb hr (fun t ht hW => ⟨⟨(), rfl, trivial, y118, q_told, q_from, q_to, hq119, hq_told, hq_from, hq_to, (show (x0 2).toInt ≤ (y118 2).toInt from by omega), (show y118 3 = x0 3 from hq121.trans (hq108.trans (hq22.trans (hq10)))), (show ∀ j : Nat, (j : Int) < (q_told 1).toInt → (q_from j).toInt < (q_to j).toInt from hLT), (show ∀ j : Nat, (j : Int) < (q_told 5).toInt → (q_from (20 + j)).toInt < (q_to (20 + j)).toInt from hLD), (show RRd tT nN y118 (lnkS tT nN sS (q_told 4) (q_told 5) (shT 20 q_from) (shT 20 q_to)) from it_f (Q := RRd tT nN y118) c1 ((rr_stepN hrr129 c127))), (show y118 8 = 0 → q_told = upd q_told 5 (q_told 5 + 1) ∧ q_from = upd q_from ((20 + (q_told 5)).toNatClampNeg) (lnkA tT nN sS) ∧ q_to = upd q_to ((20 + (q_told 5)).toNatClampNeg) (lnkB tT nN sS (q_told 4) (q_told 5) (shT 20 q_from)) from fun w => absurd w c127), (show LowT q_told q_from q_to q_told q_from q_to from low_0), (show y118 1 = x0 1 from hq123.trans (hq111.trans (hq24.trans (hq13)))), (show y118 10 = x0 10 from hq124.trans (hq112.trans (hq25.trans (hq14)))), (show y118 11 = x0 11 from hq125.trans (hq113.trans (hq26.trans (hq15)))), (show y118 14 = x0 14 from hq126.trans (hq114.trans (hq27.trans (hq16)))), by rw [ht]; exact hP9, hD9⟩, hS.F ht⟩) hS.2.2 dX11_readLink_103
          · have b130 : iv 0 0 (y118 8) := iv_eqL c127 ivk_0
            refine lv_iload_n hx hb dX11_readLink_77 rfl (lv_at hl 0 rfl) ?_
            refine lv_iload_n hx hb dX11_readLink_78 rfl (lv_at hl 1 rfl) ?_
            refine lv_icmp_le (tgt := 91) hx hb dX11_readLink_79 rfl (fun c131 => ?_) (fun c131 => ?_)
            · refine lv_aload_n hx hb dX11_readLink_91 rfl (lv_at hl 2 rfl) ?_
              refine lv_iconst (v := 5) hx hb dX11_readLink_92 ic_5 ?_
              obtain ⟨hPc, hDc, hFc, hJn⟩ := cl_a (wc := [(m0, .inr (11, oX11 ra y118))]) (wr := [(ra 9, .inl (kI, 40, .inl q_to)), (ra 8, .inl (kI, 40, .inl q_from)), (ra 13, .inl (kI, 700, .inl q_tape)), (ra 2, .inl (kI, 8, .inl q_told))]) hP hD hS hA [3] [0, 1, 2, 4] rfl rfl (by decide +kernel)
              refine va_callv (va_runV (As := [.int 5]) (rest := []) ⟨hx, hb, hml, hown, hts⟩ (s11_wrong l dC dI kB kI kJ kZ kC kS H.size m0 ra y118 5 tT nN (rouT tT (q_told 4) (lnk2 tT nN sS (q_told 4) (q_told 5) (shT 20 q_from))) (hq119) ((iv_w ivk_5 (by decide) (by decide))) (hq122)) (cwV 1 hts gX11_readLink_X11_wrong rfl rfl rfl (by decide +kernel) ⟨Nat.le_of_ble_eq_true rfl, Nat.le_of_ble_eq_true rfl⟩) ⟨fun a U g mk q => by obtain ⟨q0, q1, qP, qE, qD⟩ := q; exact ⟨q0, q1, qP, kE_call qE, qD⟩, va_recv hK hP (ci := 11) (q0 := 3) rfl rfl, fun U hU hW => ⟨rfl, by rw [hU], by rw [hU]; exact hPc, kE_warm hW hE, hDc.weaken (fun _ _ _ _ => trivial)⟩⟩ rfl rfl hl.1 rfl (lv_room (Nat.le_of_ble_eq_true rfl)) dX11_readLink_93 ⟨Nat.le_of_ble_eq_true rfl, Nat.le_of_ble_eq_true rfl⟩) hS (fun q _ h => hFc q h) hFc (fun u t H locs ht hvm w133 hB hz1 hk1 hS => ?_)
              obtain ⟨y134, hq135, hq136, hq137, hq138, hq139, hq140, hq141, hq142, hq143, hP1, hD1⟩ := hB
              try dsimp only at w133
              obtain ⟨hPa, hDa⟩ := hJn (w1 := [(m0, .inr (11, oX11 ra y134))]) hk1 ht hP1 hD1
              clear hP hD hPc hDc hFc hJn hP1 hD1 hk1
              have hP : va_P (dC, dI) vwCl [(ra 9, .inl (kI, 40, .inl q_to)), (ra 8, .inl (kI, 40, .inl q_from)), (ra 13, .inl (kI, 700, .inl q_tape)), (ra 2, .inl (kI, 8, .inl q_told)), (m0, .inr (11, oX11 ra y134))] H := hPa
              have hD : va_D A [(ra 9, .inl (kI, 40, .inl q_to)), (ra 8, .inl (kI, 40, .inl q_from)), (ra 13, .inl (kI, 700, .inl q_tape)), (ra 2, .inl (kI, 8, .inl q_told)), (m0, .inr (11, oX11 ra y134))] := hDa
              clear hPa hDa
              refine W.widen (k := 0) (n := 0) (Nat.le_of_ble_eq_true rfl) (Nat.le_of_ble_eq_true rfl) ?_
              have hok9 := rr_ok hq122 c127
              have hb9 := hv8 hok9
              have ha9 := hv9 (ok_ite (ok_next (ok_num (ok_rou hok9)))).1
              have hrr144 : RRd tT nN y134 (iteT (lnkB tT nN sS (q_told 4) (q_told 5) (shT 20 q_from) ≤ lnkA tT nN sS ∨ hasT (shT 20 q_from) (shT 20 q_to) (q_told 5) (lnkA tT nN sS) (lnkB tT nN sS (q_told 4) (q_told 5) (shT 20 q_from))) (failT 5 (lnk3 tT nN sS (q_told 4) (q_told 5) (shT 20 q_from))) (lnk3 tT nN sS (q_told 4) (q_told 5) (shT 20 q_from))) := it_t (Q := RRd tT nN y134) (Or.inl (by have q := c131; rw [ha9, hb9] at q; exact q)) (hq139)
              refine lv_aload_n hx hb dX11_readLink_96 rfl (lv_at hl 2 rfl) ?_
              refine va_get (D := (dC, dI)) (ci := 11) (v := .int (y134 8)) (C := RX11) (T := TX11) (N := 61) hx hb hts hin11 hown hK hP 4 rfl rfl 22 (Nat.le_of_ble_eq_true rfl) hw_1 (fun _ h9 => h9) rfl dX11_readLink_97 ?_
              refine lv_if_eq (tgt := 104) hx hb dX11_readLink_100 rfl (fun c9 => absurd c9 (iv_ne hq136 ivk_0 (by decide))) (fun _ => ?_)
              have hPD9 := cl_s (wc := [(m0, .inr (11, oX11 ra y134)), (ra 2, .inl (kI, 8, .inl q_told)), (ra 8, .inl (kI, 40, .inl q_from)), (ra 9, .inl (kI, 40, .inl q_to)), (ra 13, .inl (kI, 700, .inl q_tape))]) hP hD [4, 3, 1, 0, 2] rfl (by decide +kernel)
              have hP9 := hPD9.1
              have hD9 := hPD9.2
              exact W.vret hx hb hr (fun t ht hW => ⟨⟨(), rfl, trivial, y134, q_told, q_from, q_to, hq135, hq_told, hq_from, hq_to, (show (x0 2).toInt ≤ (y134 2).toInt from by omega), (show y134 3 = x0 3 from hq138.trans (hq121.trans (hq108.trans (hq22.trans (hq10))))), (show ∀ j : Nat, (j : Int) < (q_told 1).toInt → (q_from j).toInt < (q_to j).toInt from hLT), (show ∀ j : Nat, (j : Int) < (q_told 5).toInt → (q_from (20 + j)).toInt < (q_to (20 + j)).toInt from hLD), (show RRd tT nN y134 (lnkS tT nN sS (q_told 4) (q_told 5) (shT 20 q_from) (shT 20 q_to)) from it_f (Q := RRd tT nN y134) c1 ((rr_stepN hrr144 (iv_ne hq136 ivk_0 (by decide))))), (show y134 8 = 0 → q_told = upd q_told 5 (q_told 5 + 1) ∧ q_from = upd q_from ((20 + (q_told 5)).toNatClampNeg) (lnkA tT nN sS) ∧ q_to = upd q_to ((20 + (q_told 5)).toNatClampNeg) (lnkB tT nN sS (q_told 4) (q_told 5) (shT 20 q_from)) from fun w => absurd w (iv_ne hq136 ivk_0 (by decide))), (show LowT q_told q_from q_to q_told q_from q_to from low_0), (show y134 1 = x0 1 from hq140.trans (hq123.trans (hq111.trans (hq24.trans (hq13))))), (show y134 10 = x0 10 from hq141.trans (hq124.trans (hq112.trans (hq25.trans (hq14))))), (show y134 11 = x0 11 from hq142.trans (hq125.trans (hq113.trans (hq26.trans (hq15))))), (show y134 14 = x0 14 from hq143.trans (hq126.trans (hq114.trans (hq27.trans (hq16))))), by rw [ht]; exact hP9, hD9⟩, hS.F ht⟩) hS.2.2 dX11_readLink_103
            · have b145 : iv 0 10 r17 := iv_ltL (Int32.not_le.mp c131) w18.1 w117.1 (by decide) (by decide)
              have b146 : iv 1 11 r116 := iv_ltR (Int32.not_le.mp c131) w18.1 w117.1 (by decide) (by decide)
              refine lv_aload_n hx hb dX11_readLink_82 rfl (lv_at hl 2 rfl) ?_
              refine lv_iload_n hx hb dX11_readLink_83 rfl (lv_at hl 1 rfl) ?_
              refine lv_iload_n hx hb dX11_readLink_84 rfl (lv_at hl 0 rfl) ?_
              obtain ⟨hPc, hDc, hFc, hJn⟩ := cl_a (wc := [(m0, .inr (11, oX11 ra y118)), (ra 2, .inl (kI, 8, .inl q_told)), (ra 8, .inl (kI, 40, .inl q_from)), (ra 9, .inl (kI, 40, .inl q_to))]) (wr := [(ra 13, .inl (kI, 700, .inl q_tape))]) hP hD hS hA [3, 4, 1, 0] [2] rfl rfl (by decide +kernel)
              refine va_calli (va_runV (As := [.int r17, .int r116]) (rest := []) ⟨hx, hb, hml, hown, hts⟩ (s11_hasLink l dC dI kB kI kJ kZ kC kS H.size m0 ra y118 q_told q_from q_to r17 r116 (hq119) (hq_told) (hq_from) (hq_to)) (cwV 2 hts gX11_readLink_X11_hasLink rfl rfl rfl (by decide +kernel) ⟨Nat.le_of_ble_eq_true rfl, Nat.le_of_ble_eq_true rfl⟩) ⟨fun a U g mk q => by obtain ⟨q0, q1, qP, qE, qD⟩ := q; exact ⟨q0, q1, qP, kE_call qE, qD⟩, va_recv hK hP (ci := 11) (q0 := 3) rfl rfl, fun U hU hW => ⟨rfl, by rw [hU], by rw [hU]; exact hPc, kE_warm hW hE, hDc.weaken (fun _ _ _ _ => trivial)⟩⟩ rfl rfl hl.1 rfl (lv_room (Nat.le_of_ble_eq_true rfl)) dX11_readLink_85 ⟨Nat.le_of_ble_eq_true rfl, Nat.le_of_ble_eq_true rfl⟩) hS (fun q _ h => hFc q h) hFc (fun r147 u t H locs ht hvm w148 hB hz1 hk1 hS => ?_)
              obtain ⟨hP1, hD1⟩ := hB
              try dsimp only at w148
              obtain ⟨hPa, hDa⟩ := hJn (w1 := [(m0, .inr (11, oX11 ra y118)), (ra 2, .inl (kI, 8, .inl q_told)), (ra 8, .inl (kI, 40, .inl q_from)), (ra 9, .inl (kI, 40, .inl q_to))]) hk1 ht hP1 hD1
              clear hP hD hPc hDc hFc hJn hP1 hD1 hk1
              have hP : va_P (dC, dI) vwCl [(ra 13, .inl (kI, 700, .inl q_tape)), (m0, .inr (11, oX11 ra y118)), (ra 2, .inl (kI, 8, .inl q_told)), (ra 8, .inl (kI, 40, .inl q_from)), (ra 9, .inl (kI, 40, .inl q_to))] H := hPa
              have hD : va_D A [(ra 13, .inl (kI, 700, .inl q_tape)), (m0, .inr (11, oX11 ra y118)), (ra 2, .inl (kI, 8, .inl q_told)), (ra 8, .inl (kI, 40, .inl q_from)), (ra 9, .inl (kI, 40, .inl q_to))] := hDa
              clear hPa hDa
              refine W.widen (k := 0) (n := 0) (Nat.le_of_ble_eq_true rfl) (Nat.le_of_ble_eq_true rfl) ?_
              have hh9 := w148.2
              refine lv_if_eq (tgt := 96) hx hb dX11_readLink_88 rfl (fun c149 => ?_) (fun c149 => ?_)
              · have b150 : iv 0 0 r147 := iv_eqL c149 ivk_0
                have hok9 := rr_ok hq122 c127
                have hb9 := hv8 hok9
                have ha9 := hv9 (ok_ite (ok_next (ok_num (ok_rou hok9)))).1
                have hrr151 : RRd tT nN y118 (iteT (lnkB tT nN sS (q_told 4) (q_told 5) (shT 20 q_from) ≤ lnkA tT nN sS ∨ hasT (shT 20 q_from) (shT 20 q_to) (q_told 5) (lnkA tT nN sS) (lnkB tT nN sS (q_told 4) (q_told 5) (shT 20 q_from))) (failT 5 (lnk3 tT nN sS (q_told 4) (q_told 5) (shT 20 q_from))) (lnk3 tT nN sS (q_told 4) (q_told 5) (shT 20 q_from))) := it_f (Q := RRd tT nN y118) (by have q := (hh9.resolve_right (fun w => w.1 c149)).2; have q2 := Int32.not_le.mpr (Int32.not_le.mp c131); rw [ha9, hb9] at q q2; exact fun w => w.elim q2 q) (hq122)
                refine lv_aload_n hx hb dX11_readLink_96 rfl (lv_at hl 2 rfl) ?_
                refine va_get (D := (dC, dI)) (ci := 11) (v := .int (y118 8)) (C := RX11) (T := TX11) (N := 61) hx hb hts hin11 hown hK hP 1 rfl rfl 22 (Nat.le_of_ble_eq_true rfl) hw_1 (fun _ h9 => h9) rfl dX11_readLink_97 ?_
                refine lv_if_eq (tgt := 104) hx hb dX11_readLink_100 rfl (fun _ => ?_) (fun c9 => absurd (c127) c9)
                refine lv_aload_n hx hb dX11_readLink_104 rfl (lv_at hl 2 rfl) ?_
                obtain ⟨hPc, hDc, hFc, hJn⟩ := cl_a (wc := [(m0, .inr (11, oX11 ra y118)), (ra 13, .inl (kI, 700, .inl q_tape))]) (wr := [(ra 2, .inl (kI, 8, .inl q_told)), (ra 8, .inl (kI, 40, .inl q_from)), (ra 9, .inl (kI, 40, .inl q_to))]) hP hD hS hA [1, 0] [2, 3, 4] rfl rfl (by decide +kernel)
                refine va_callv (va_runV (As := []) (rest := []) ⟨hx, hb, hml, hown, hts⟩ (s11_stepOn l dC dI kB kI kJ kZ kC kS H.size m0 ra y118 q_tape tT nN (nextT tT nN (iteT (lnkB tT nN sS (q_told 4) (q_told 5) (shT 20 q_from) ≤ lnkA tT nN sS ∨ hasT (shT 20 q_from) (shT 20 q_to) (q_told 5) (lnkA tT nN sS) (lnkB tT nN sS (q_told 4) (q_told 5) (shT 20 q_from))) (failT 5 (lnk3 tT nN sS (q_told 4) (q_told 5) (shT 20 q_from))) (lnk3 tT nN sS (q_told 4) (q_told 5) (shT 20 q_from)))) (hq119) (hq_tape) (hrr151.2) (stp_of hrr151) (hTQ)) (cwV 0 hts gX11_readLink_X11_stepOn rfl rfl rfl (by decide +kernel) ⟨Nat.le_of_ble_eq_true rfl, Nat.le_of_ble_eq_true rfl⟩) ⟨fun a U g mk q => by obtain ⟨q0, q1, qP, qE, qD⟩ := q; exact ⟨q0, q1, qP, kE_call qE, qD⟩, va_recv hK hP (ci := 11) (q0 := 1) rfl rfl, fun U hU hW => ⟨rfl, by rw [hU], by rw [hU]; exact hPc, kE_warm hW hE, hDc.weaken (fun _ _ _ _ => trivial)⟩⟩ rfl rfl hl.1 rfl (lv_room (Nat.le_of_ble_eq_true rfl)) dX11_readLink_105 ⟨Nat.le_of_ble_eq_true rfl, Nat.le_of_ble_eq_true rfl⟩) hS (fun q _ h => hFc q h) hFc (fun u t H locs ht hvm w153 hB hz1 hk1 hS => ?_)
                obtain ⟨y154, hq155, hq156, hq157, hq158, hq159, hq160, hq161, hq162, hq163, hP1, hD1⟩ := hB
                try dsimp only at w153
                obtain ⟨hPa, hDa⟩ := hJn (w1 := [(m0, .inr (11, oX11 ra y154)), (ra 13, .inl (kI, 700, .inl q_tape))]) hk1 ht hP1 hD1
                clear hP hD hPc hDc hFc hJn hP1 hD1 hk1
                have hP : va_P (dC, dI) vwCl [(ra 2, .inl (kI, 8, .inl q_told)), (ra 8, .inl (kI, 40, .inl q_from)), (ra 9, .inl (kI, 40, .inl q_to)), (m0, .inr (11, oX11 ra y154)), (ra 13, .inl (kI, 700, .inl q_tape))] H := hPa
                have hD : va_D A [(ra 2, .inl (kI, 8, .inl q_told)), (ra 8, .inl (kI, 40, .inl q_from)), (ra 9, .inl (kI, 40, .inl q_to)), (m0, .inr (11, oX11 ra y154)), (ra 13, .inl (kI, 700, .inl q_tape))] := hDa
                clear hPa hDa
                refine W.widen (k := 0) (n := 0) (Nat.le_of_ble_eq_true rfl) (Nat.le_of_ble_eq_true rfl) ?_
                refine lv_aload_n hx hb dX11_readLink_108 rfl (lv_at hl 2 rfl) ?_
                refine va_get (D := (dC, dI)) (ci := 11) (v := .ref (ra 8)) (C := RX11) (T := TX11) (N := 61) hx hb hts hin11 hown hK hP 3 rfl rfl 9 (Nat.le_of_ble_eq_true rfl) hw_2 (fun _ h9 => h9) rfl dX11_readLink_109 ?_
                refine lv_bipush (v := 20) hx hb dX11_readLink_112 bp_20 ?_
                refine lv_aload_n hx hb dX11_readLink_114 rfl (lv_at hl 2 rfl) ?_
                refine va_get (D := (dC, dI)) (ci := 11) (v := .ref (ra 2)) (C := RX11) (T := TX11) (N := 61) hx hb hts hin11 hown hK hP 3 rfl rfl 3 (Nat.le_of_ble_eq_true rfl) hw_0 (fun _ h9 => h9) rfl dX11_readLink_115 ?_
                refine lv_iconst (v := 5) hx hb dX11_readLink_118 ic_5 ?_
                refine va_iald hx hb hK hP 0 1 rfl rfl (vp_in_nI (n := 5) (by decide) (by decide)) dX11_readLink_119 ?_
                refine W.eq (g2 := F0 m 120 ls [.int (q_told 5), .int 20, .ref (ra 8)]) rfl ?_
                refine lv_iadd hx hb dX11_readLink_120 ?_
                have b164 : iv 20 39 (20 + (q_told 5)) := iv_add ivk_20 b2 (by decide) (by decide) (by decide) (by decide)
                refine lv_iload_n hx hb dX11_readLink_121 rfl (lv_at hl 1 rfl) ?_
                refine va_iast hx hb hK hP hD hS 1 1 rfl rfl (iv_in b164 (by decide) (by decide)) dX11_readLink_122 (fun H locs hPa hDa hS => ?_)
                clear hP hD
                have hP : va_P (dC, dI) vwCl [(ra 2, .inl (kI, 8, .inl q_told)), (ra 8, .inl (kI, 40, .inl (upd q_from (20 + (q_told 5)).toNatClampNeg r17))), (ra 9, .inl (kI, 40, .inl q_to)), (m0, .inr (11, oX11 ra y154)), (ra 13, .inl (kI, 700, .inl q_tape))] H := hPa
                have hD : va_D A [(ra 2, .inl (kI, 8, .inl q_told)), (ra 8, .inl (kI, 40, .inl (upd q_from (20 + (q_told 5)).toNatClampNeg r17))), (ra 9, .inl (kI, 40, .inl q_to)), (m0, .inr (11, oX11 ra y154)), (ra 13, .inl (kI, 700, .inl q_tape))] := hDa
                clear hPa hDa
                refine lv_aload_n hx hb dX11_readLink_123 rfl (lv_at hl 2 rfl) ?_
                refine va_get (D := (dC, dI)) (ci := 11) (v := .ref (ra 9)) (C := RX11) (T := TX11) (N := 61) hx hb hts hin11 hown hK hP 3 rfl rfl 10 (Nat.le_of_ble_eq_true rfl) hw_3 (fun _ h9 => h9) rfl dX11_readLink_124 ?_
                refine lv_bipush (v := 20) hx hb dX11_readLink_127 bp_20 ?_
                refine lv_aload_n hx hb dX11_readLink_129 rfl (lv_at hl 2 rfl) ?_
                refine va_get (D := (dC, dI)) (ci := 11) (v := .ref (ra 2)) (C := RX11) (T := TX11) (N := 61) hx hb hts hin11 hown hK hP 3 rfl rfl 3 (Nat.le_of_ble_eq_true rfl) hw_0 (fun _ h9 => h9) rfl dX11_readLink_130 ?_
                refine lv_iconst (v := 5) hx hb dX11_readLink_133 ic_5 ?_
                refine va_iald hx hb hK hP 0 1 rfl rfl (vp_in_nI (n := 5) (by decide) (by decide)) dX11_readLink_134 ?_
                refine W.eq (g2 := F0 m 135 ls [.int (q_told 5), .int 20, .ref (ra 9)]) rfl ?_
                refine lv_iadd hx hb dX11_readLink_135 ?_
                have b165 : iv 20 39 (20 + (q_told 5)) := iv_add ivk_20 b2 (by decide) (by decide) (by decide) (by decide)
                refine lv_iload_n hx hb dX11_readLink_136 rfl (lv_at hl 0 rfl) ?_
                refine va_iast hx hb hK hP hD hS 2 1 rfl rfl (iv_in b165 (by decide) (by decide)) dX11_readLink_137 (fun H locs hPa hDa hS => ?_)
                clear hP hD
                have hP : va_P (dC, dI) vwCl [(ra 2, .inl (kI, 8, .inl q_told)), (ra 8, .inl (kI, 40, .inl (upd q_from (20 + (q_told 5)).toNatClampNeg r17))), (ra 9, .inl (kI, 40, .inl (upd q_to (20 + (q_told 5)).toNatClampNeg r116))), (m0, .inr (11, oX11 ra y154)), (ra 13, .inl (kI, 700, .inl q_tape))] H := hPa
                have hD : va_D A [(ra 2, .inl (kI, 8, .inl q_told)), (ra 8, .inl (kI, 40, .inl (upd q_from (20 + (q_told 5)).toNatClampNeg r17))), (ra 9, .inl (kI, 40, .inl (upd q_to (20 + (q_told 5)).toNatClampNeg r116))), (m0, .inr (11, oX11 ra y154)), (ra 13, .inl (kI, 700, .inl q_tape))] := hDa
                clear hPa hDa
                refine lv_aload_n hx hb dX11_readLink_138 rfl (lv_at hl 2 rfl) ?_
                refine va_get (D := (dC, dI)) (ci := 11) (v := .ref (ra 2)) (C := RX11) (T := TX11) (N := 61) hx hb hts hin11 hown hK hP 3 rfl rfl 3 (Nat.le_of_ble_eq_true rfl) hw_0 (fun _ h9 => h9) rfl dX11_readLink_139 ?_
                refine lv_iconst (v := 5) hx hb dX11_readLink_142 ic_5 ?_
                refine lv_dup2_11 hx hb dX11_readLink_143 rfl rfl ?_
                refine va_iald hx hb hK hP 0 1 rfl rfl (vp_in_nI (n := 5) (by decide) (by decide)) dX11_readLink_144 ?_
                refine W.eq (g2 := F0 m 145 ls [.int (q_told 5), .int 5, .ref (ra 2)]) rfl ?_
                refine lv_iconst (v := 1) hx hb dX11_readLink_145 ic_1 ?_
                refine lv_iadd hx hb dX11_readLink_146 ?_
                have b166 : iv 1 20 ((q_told 5) + 1) := iv_add b2 ivk_1 (by decide) (by decide) (by decide) (by decide)
                refine va_iast hx hb hK hP hD hS 0 1 rfl rfl (vp_in_nI (n := 5) (by decide) (by decide)) dX11_readLink_147 (fun H locs hPa hDa hS => ?_)
                clear hP hD
                have hP : va_P (dC, dI) vwCl [(ra 2, .inl (kI, 8, .inl (upd q_told 5 ((q_told 5) + 1)))), (ra 8, .inl (kI, 40, .inl (upd q_from (20 + (q_told 5)).toNatClampNeg r17))), (ra 9, .inl (kI, 40, .inl (upd q_to (20 + (q_told 5)).toNatClampNeg r116))), (m0, .inr (11, oX11 ra y154)), (ra 13, .inl (kI, 700, .inl q_tape))] H := hPa
                have hD : va_D A [(ra 2, .inl (kI, 8, .inl (upd q_told 5 ((q_told 5) + 1)))), (ra 8, .inl (kI, 40, .inl (upd q_from (20 + (q_told 5)).toNatClampNeg r17))), (ra 9, .inl (kI, 40, .inl (upd q_to (20 + (q_told 5)).toNatClampNeg r116))), (m0, .inr (11, oX11 ra y154)), (ra 13, .inl (kI, 700, .inl q_tape))] := hDa
                clear hPa hDa
                have hPD9 := cl_s (wc := [(m0, .inr (11, oX11 ra y154)), (ra 2, .inl (kI, 8, .inl (upd q_told 5 ((q_told 5) + 1)))), (ra 8, .inl (kI, 40, .inl (upd q_from (20 + (q_told 5)).toNatClampNeg r17))), (ra 9, .inl (kI, 40, .inl (upd q_to (20 + (q_told 5)).toNatClampNeg r116))), (ra 13, .inl (kI, 700, .inl q_tape))]) hP hD [3, 0, 1, 2, 4] rfl (by decide +kernel)
                have hP9 := hPD9.1
                have hD9 := hPD9.2
                exact W.vret hx hb hr (fun t ht hW => ⟨⟨(), rfl, trivial, y154, upd q_told 5 ((q_told 5) + 1), upd q_from (20 + (q_told 5)).toNatClampNeg r17, upd q_to (20 + (q_told 5)).toNatClampNeg r116, hq155, (fI_u hq_told (k := 5) ((iv_w b166 (by decide) (by decide)))), (fI_u hq_from (k := (20 + (q_told 5)).toNatClampNeg) ((iv_w b145 (by decide) (by decide)))), (fI_u hq_to (k := (20 + (q_told 5)).toNatClampNeg) ((iv_w b146 (by decide) (by decide)))), (show (x0 2).toInt ≤ (y154 2).toInt from by omega), (show y154 3 = x0 3 from hq157.trans (hq121.trans (hq108.trans (hq22.trans (hq10))))), lk_lt hLT (hq_told 1) (hq_told 5), lk_ld hLD b2 (Int32.not_le.mp c131), (show RRd tT nN y154 (lnkS tT nN sS (q_told 4) (q_told 5) (shT 20 q_from) (shT 20 q_to)) from it_f (Q := RRd tT nN y154) c1 (hq159)), fun _ => ⟨rfl, congrArg (upd q_from ((20 + (q_told 5)).toNatClampNeg)) (hv9 (ok_ite (ok_next (ok_num (ok_rou (ok_ite (rr_ok hrr151 c127)).1)))).1), congrArg (upd q_to ((20 + (q_told 5)).toNatClampNeg)) (hv8 (ok_ite (rr_ok hrr151 c127)).1)⟩, low_l (by decide) (iv_w b2 (by decide) (by decide)), (show y154 1 = x0 1 from hq160.trans (hq123.trans (hq111.trans (hq24.trans (hq13))))), (show y154 10 = x0 10 from hq161.trans (hq124.trans (hq112.trans (hq25.trans (hq14))))), (show y154 11 = x0 11 from hq162.trans (hq125.trans (hq113.trans (hq26.trans (hq15))))), (show y154 14 = x0 14 from hq163.trans (hq126.trans (hq114.trans (hq27.trans (hq16))))), by rw [ht]; exact hP9, hD9⟩, hS.F ht⟩) hS.2.2 dX11_readLink_148
              · have b167 : iv 1 1 r147 := iv_neLo c149 w148.1 ivk_0 (by decide) (by decide)
                refine lv_aload_n hx hb dX11_readLink_91 rfl (lv_at hl 2 rfl) ?_
                refine lv_iconst (v := 5) hx hb dX11_readLink_92 ic_5 ?_
                obtain ⟨hPc, hDc, hFc, hJn⟩ := cl_a (wc := [(m0, .inr (11, oX11 ra y118))]) (wr := [(ra 13, .inl (kI, 700, .inl q_tape)), (ra 2, .inl (kI, 8, .inl q_told)), (ra 8, .inl (kI, 40, .inl q_from)), (ra 9, .inl (kI, 40, .inl q_to))]) hP hD hS hA [1] [0, 2, 3, 4] rfl rfl (by decide +kernel)
                refine va_callv (va_runV (As := [.int 5]) (rest := []) ⟨hx, hb, hml, hown, hts⟩ (s11_wrong l dC dI kB kI kJ kZ kC kS H.size m0 ra y118 5 tT nN (rouT tT (q_told 4) (lnk2 tT nN sS (q_told 4) (q_told 5) (shT 20 q_from))) (hq119) ((iv_w ivk_5 (by decide) (by decide))) (hq122)) (cwV 1 hts gX11_readLink_X11_wrong rfl rfl rfl (by decide +kernel) ⟨Nat.le_of_ble_eq_true rfl, Nat.le_of_ble_eq_true rfl⟩) ⟨fun a U g mk q => by obtain ⟨q0, q1, qP, qE, qD⟩ := q; exact ⟨q0, q1, qP, kE_call qE, qD⟩, va_recv hK hP (ci := 11) (q0 := 1) rfl rfl, fun U hU hW => ⟨rfl, by rw [hU], by rw [hU]; exact hPc, kE_warm hW hE, hDc.weaken (fun _ _ _ _ => trivial)⟩⟩ rfl rfl hl.1 rfl (lv_room (Nat.le_of_ble_eq_true rfl)) dX11_readLink_93 ⟨Nat.le_of_ble_eq_true rfl, Nat.le_of_ble_eq_true rfl⟩) hS (fun q _ h => hFc q h) hFc (fun u t H locs ht hvm w169 hB hz1 hk1 hS => ?_)
                obtain ⟨y170, hq171, hq172, hq173, hq174, hq175, hq176, hq177, hq178, hq179, hP1, hD1⟩ := hB
                try dsimp only at w169
                obtain ⟨hPa, hDa⟩ := hJn (w1 := [(m0, .inr (11, oX11 ra y170))]) hk1 ht hP1 hD1
                clear hP hD hPc hDc hFc hJn hP1 hD1 hk1
                have hP : va_P (dC, dI) vwCl [(ra 13, .inl (kI, 700, .inl q_tape)), (ra 2, .inl (kI, 8, .inl q_told)), (ra 8, .inl (kI, 40, .inl q_from)), (ra 9, .inl (kI, 40, .inl q_to)), (m0, .inr (11, oX11 ra y170))] H := hPa
                have hD : va_D A [(ra 13, .inl (kI, 700, .inl q_tape)), (ra 2, .inl (kI, 8, .inl q_told)), (ra 8, .inl (kI, 40, .inl q_from)), (ra 9, .inl (kI, 40, .inl q_to)), (m0, .inr (11, oX11 ra y170))] := hDa
                clear hPa hDa
                refine W.widen (k := 0) (n := 0) (Nat.le_of_ble_eq_true rfl) (Nat.le_of_ble_eq_true rfl) ?_
                have hok9 := rr_ok hq122 c127
                have hb9 := hv8 hok9
                have ha9 := hv9 (ok_ite (ok_next (ok_num (ok_rou hok9)))).1
                have hrr180 : RRd tT nN y170 (iteT (lnkB tT nN sS (q_told 4) (q_told 5) (shT 20 q_from) ≤ lnkA tT nN sS ∨ hasT (shT 20 q_from) (shT 20 q_to) (q_told 5) (lnkA tT nN sS) (lnkB tT nN sS (q_told 4) (q_told 5) (shT 20 q_from))) (failT 5 (lnk3 tT nN sS (q_told 4) (q_told 5) (shT 20 q_from))) (lnk3 tT nN sS (q_told 4) (q_told 5) (shT 20 q_from))) := it_t (Q := RRd tT nN y170) (Or.inr (by have q := (hh9.resolve_left (fun w => c149 w.1)).2; rw [ha9, hb9] at q; exact q)) (hq175)
                refine lv_aload_n hx hb dX11_readLink_96 rfl (lv_at hl 2 rfl) ?_
                refine va_get (D := (dC, dI)) (ci := 11) (v := .int (y170 8)) (C := RX11) (T := TX11) (N := 61) hx hb hts hin11 hown hK hP 4 rfl rfl 22 (Nat.le_of_ble_eq_true rfl) hw_1 (fun _ h9 => h9) rfl dX11_readLink_97 ?_
                refine lv_if_eq (tgt := 104) hx hb dX11_readLink_100 rfl (fun c9 => absurd c9 (iv_ne hq172 ivk_0 (by decide))) (fun _ => ?_)
                have hPD9 := cl_s (wc := [(m0, .inr (11, oX11 ra y170)), (ra 2, .inl (kI, 8, .inl q_told)), (ra 8, .inl (kI, 40, .inl q_from)), (ra 9, .inl (kI, 40, .inl q_to)), (ra 13, .inl (kI, 700, .inl q_tape))]) hP hD [4, 1, 2, 3, 0] rfl (by decide +kernel)
                have hP9 := hPD9.1
                have hD9 := hPD9.2
                exact W.vret hx hb hr (fun t ht hW => ⟨⟨(), rfl, trivial, y170, q_told, q_from, q_to, hq171, hq_told, hq_from, hq_to, (show (x0 2).toInt ≤ (y170 2).toInt from by omega), (show y170 3 = x0 3 from hq174.trans (hq121.trans (hq108.trans (hq22.trans (hq10))))), (show ∀ j : Nat, (j : Int) < (q_told 1).toInt → (q_from j).toInt < (q_to j).toInt from hLT), (show ∀ j : Nat, (j : Int) < (q_told 5).toInt → (q_from (20 + j)).toInt < (q_to (20 + j)).toInt from hLD), (show RRd tT nN y170 (lnkS tT nN sS (q_told 4) (q_told 5) (shT 20 q_from) (shT 20 q_to)) from it_f (Q := RRd tT nN y170) c1 ((rr_stepN hrr180 (iv_ne hq172 ivk_0 (by decide))))), (show y170 8 = 0 → q_told = upd q_told 5 (q_told 5 + 1) ∧ q_from = upd q_from ((20 + (q_told 5)).toNatClampNeg) (lnkA tT nN sS) ∧ q_to = upd q_to ((20 + (q_told 5)).toNatClampNeg) (lnkB tT nN sS (q_told 4) (q_told 5) (shT 20 q_from)) from fun w => absurd w (iv_ne hq172 ivk_0 (by decide))), (show LowT q_told q_from q_to q_told q_from q_to from low_0), (show y170 1 = x0 1 from hq176.trans (hq123.trans (hq111.trans (hq24.trans (hq13))))), (show y170 10 = x0 10 from hq177.trans (hq124.trans (hq112.trans (hq25.trans (hq14))))), (show y170 11 = x0 11 from hq178.trans (hq125.trans (hq113.trans (hq26.trans (hq15))))), (show y170 14 = x0 14 from hq179.trans (hq126.trans (hq114.trans (hq27.trans (hq16))))), by rw [ht]; exact hP9, hD9⟩, hS.F ht⟩) hS.2.2 dX11_readLink_103
        · have b181 : iv 4 4 (nI (cntT (shT 20 q_from) r17 (q_told 5).toNatClampNeg)) := iv_eqL c101 ivk_4
          refine lv_aload_n hx hb dX11_readLink_49 rfl (lv_at hl 1 rfl) ?_
          refine lv_iconst (v := 2) hx hb dX11_readLink_50 ic_2 ?_
          obtain ⟨hPc, hDc, hFc, hJn⟩ := cl_a (wc := [(m0, .inr (11, oX11 ra y19))]) (wr := [(ra 9, .inl (kI, 40, .inl q_to)), (ra 13, .inl (kI, 700, .inl q_tape)), (ra 2, .inl (kI, 8, .inl q_told)), (ra 8, .inl (kI, 40, .inl q_from))]) hP hD hS hA [2] [0, 1, 3, 4] rfl rfl (by decide +kernel)
          refine va_callv (va_runV (As := [.int 2]) (rest := []) ⟨hx, hb, hml, hown, hts⟩ (s11_wrong l dC dI kB kI kJ kZ kC kS H.size m0 ra y19 2 tT nN (rouT tT (q_told 4) (nextT tT nN sS)) (hq20) ((iv_w ivk_2 (by decide) (by decide))) (hq23)) (cwV 1 hts gX11_readLink_X11_wrong rfl rfl rfl (by decide +kernel) ⟨Nat.le_of_ble_eq_true rfl, Nat.le_of_ble_eq_true rfl⟩) ⟨fun a U g mk q => by obtain ⟨q0, q1, qP, qE, qD⟩ := q; exact ⟨q0, q1, qP, kE_call qE, qD⟩, va_recv hK hP (ci := 11) (q0 := 2) rfl rfl, fun U hU hW => ⟨rfl, by rw [hU], by rw [hU]; exact hPc, kE_warm hW hE, hDc.weaken (fun _ _ _ _ => trivial)⟩⟩ rfl rfl hl.1 rfl (lv_room (Nat.le_of_ble_eq_true rfl)) dX11_readLink_51 ⟨Nat.le_of_ble_eq_true rfl, Nat.le_of_ble_eq_true rfl⟩) hS (fun q _ h => hFc q h) hFc (fun u t H locs ht hvm w183 hB hz1 hk1 hS => ?_)
          obtain ⟨y184, hq185, hq186, hq187, hq188, hq189, hq190, hq191, hq192, hq193, hP1, hD1⟩ := hB
          try dsimp only at w183
          obtain ⟨hPa, hDa⟩ := hJn (w1 := [(m0, .inr (11, oX11 ra y184))]) hk1 ht hP1 hD1
          clear hP hD hPc hDc hFc hJn hP1 hD1 hk1
          have hP : va_P (dC, dI) vwCl [(ra 9, .inl (kI, 40, .inl q_to)), (ra 13, .inl (kI, 700, .inl q_tape)), (ra 2, .inl (kI, 8, .inl q_told)), (ra 8, .inl (kI, 40, .inl q_from)), (m0, .inr (11, oX11 ra y184))] H := hPa
          have hD : va_D A [(ra 9, .inl (kI, 40, .inl q_to)), (ra 13, .inl (kI, 700, .inl q_tape)), (ra 2, .inl (kI, 8, .inl q_told)), (ra 8, .inl (kI, 40, .inl q_from)), (m0, .inr (11, oX11 ra y184))] := hDa
          clear hPa hDa
          refine W.widen (k := 0) (n := 0) (Nat.le_of_ble_eq_true rfl) (Nat.le_of_ble_eq_true rfl) ?_
          have ha9 := hv9 (rr_ok hq23 c28)
          have hrr194 : RRd tT nN y184 (iteT (cntT (shT 20 q_from) (lnkA tT nN sS) (q_told 5).toNatClampNeg = 4) (failT 2 (lnk1 tT nN sS (q_told 4))) (lnk1 tT nN sS (q_told 4))) := it_t (Q := RRd tT nN y184) (by have q := c101; rw [ha9] at q; exact ct_4 (iv_w b2 (by decide) (by decide)) q) (hq189)
          refine lv_aload_n hx hb dX11_readLink_54 rfl (lv_at hl 1 rfl) ?_
          refine va_get (D := (dC, dI)) (ci := 11) (v := .int (y184 8)) (C := RX11) (T := TX11) (N := 61) hx hb hts hin11 hown hK hP 4 rfl rfl 22 (Nat.le_of_ble_eq_true rfl) hw_1 (fun _ h9 => h9) rfl dX11_readLink_55 ?_
          refine lv_if_ne (tgt := 65) hx hb dX11_readLink_58 rfl (fun _ => ?_) (fun c9 => absurd c9 (iv_ne hq186 ivk_0 (by decide)))
          have hrr195 : RRd tT nN y184 (lnk2 tT nN sS (q_told 4) (q_told 5) (shT 20 q_from)) := rr_stepN hrr194 (iv_ne hq186 ivk_0 (by decide))
          refine lv_aload_n hx hb dX11_readLink_65 rfl (lv_at hl 1 rfl) ?_
          obtain ⟨hPc, hDc, hFc, hJn⟩ := cl_a (wc := [(m0, .inr (11, oX11 ra y184)), (ra 2, .inl (kI, 8, .inl q_told))]) (wr := [(ra 9, .inl (kI, 40, .inl q_to)), (ra 13, .inl (kI, 700, .inl q_tape)), (ra 8, .inl (kI, 40, .inl q_from))]) hP hD hS hA [4, 2] [0, 1, 3] rfl rfl (by decide +kernel)
          refine va_calli (va_runV (As := []) (rest := []) ⟨hx, hb, hml, hown, hts⟩ (s11_routerNow l dC dI kB kI kJ kZ kC kS H.size m0 ra y184 q_told tT nN (lnk2 tT nN sS (q_told 4) (q_told 5) (shT 20 q_from)) (hq185) (hq_told) (hrr195)) (cwV 0 hts gX11_readLink_X11_routerNow rfl rfl rfl (by decide +kernel) ⟨Nat.le_of_ble_eq_true rfl, Nat.le_of_ble_eq_true rfl⟩) ⟨fun a U g mk q => by obtain ⟨q0, q1, qP, qE, qD⟩ := q; exact ⟨q0, q1, qP, kE_call qE, qD⟩, va_recv hK hP (ci := 11) (q0 := 4) rfl rfl, fun U hU hW => ⟨rfl, by rw [hU], by rw [hU]; exact hPc, kE_warm hW hE, hDc.weaken (fun _ _ _ _ => trivial)⟩⟩ rfl rfl hl.1 rfl (lv_room (Nat.le_of_ble_eq_true rfl)) dX11_readLink_66 ⟨Nat.le_of_ble_eq_true rfl, Nat.le_of_ble_eq_true rfl⟩) hS (fun q _ h => hFc q h) hFc (fun r196 u t H locs ht hvm w197 hB hz1 hk1 hS => ?_)
          obtain ⟨y198, hq199, hq200, hq201, hq202, hq203, hq204, hq205, hq206, hP1, hD1⟩ := hB
          try dsimp only at w197
          obtain ⟨hPa, hDa⟩ := hJn (w1 := [(m0, .inr (11, oX11 ra y198)), (ra 2, .inl (kI, 8, .inl q_told))]) hk1 ht hP1 hD1
          clear hP hD hPc hDc hFc hJn hP1 hD1 hk1
          have hP : va_P (dC, dI) vwCl [(ra 9, .inl (kI, 40, .inl q_to)), (ra 13, .inl (kI, 700, .inl q_tape)), (ra 8, .inl (kI, 40, .inl q_from)), (m0, .inr (11, oX11 ra y198)), (ra 2, .inl (kI, 8, .inl q_told))] H := hPa
          have hD : va_D A [(ra 9, .inl (kI, 40, .inl q_to)), (ra 13, .inl (kI, 700, .inl q_tape)), (ra 8, .inl (kI, 40, .inl q_from)), (m0, .inr (11, oX11 ra y198)), (ra 2, .inl (kI, 8, .inl q_told))] := hDa
          clear hPa hDa
          refine W.widen (k := 0) (n := 0) (Nat.le_of_ble_eq_true rfl) (Nat.le_of_ble_eq_true rfl) ?_
          have hv8 := w197.2
          refine lv_istore_n (lv' := [(2, .int r196), (1, .int r17), (0, .ref m0)]) hx hb dX11_readLink_69 rfl hl (Nat.le_of_ble_eq_true rfl) rfl (fun ls hl => ?_)
          refine lv_aload_n hx hb dX11_readLink_70 rfl (lv_at hl 2 rfl) ?_
          refine va_get (D := (dC, dI)) (ci := 11) (v := .int (y198 8)) (C := RX11) (T := TX11) (N := 61) hx hb hts hin11 hown hK hP 3 rfl rfl 22 (Nat.le_of_ble_eq_true rfl) hw_1 (fun _ h9 => h9) rfl dX11_readLink_71 ?_
          refine lv_if_ne (tgt := 96) hx hb dX11_readLink_74 rfl (fun c207 => ?_) (fun c207 => ?_)
          · have b208 : iv 1 5 (y198 8) := iv_neLo c207 (hq199 8 : iv 0 5 (y198 8)) ivk_0 (by decide) (by decide)
            have hrr209 : RRd tT nN y198 (iteT (lnkB tT nN sS (q_told 4) (q_told 5) (shT 20 q_from) ≤ lnkA tT nN sS ∨ hasT (shT 20 q_from) (shT 20 q_to) (q_told 5) (lnkA tT nN sS) (lnkB tT nN sS (q_told 4) (q_told 5) (shT 20 q_from))) (failT 5 (lnk3 tT nN sS (q_told 4) (q_told 5) (shT 20 q_from))) (lnk3 tT nN sS (q_told 4) (q_told 5) (shT 20 q_from))) := ite_r hq202 c207 ▸ hq202
            refine lv_aload_n hx hb dX11_readLink_96 rfl (lv_at hl 2 rfl) ?_
            refine va_get (D := (dC, dI)) (ci := 11) (v := .int (y198 8)) (C := RX11) (T := TX11) (N := 61) hx hb hts hin11 hown hK hP 3 rfl rfl 22 (Nat.le_of_ble_eq_true rfl) hw_1 (fun _ h9 => h9) rfl dX11_readLink_97 ?_
            refine lv_if_eq (tgt := 104) hx hb dX11_readLink_100 rfl (fun c9 => absurd c9 (c207)) (fun _ => ?_)
            have hPD9 := cl_s (wc := [(m0, .inr (11, oX11 ra y198)), (ra 2, .inl (kI, 8, .inl q_told)), (ra 8, .inl (kI, 40, .inl q_from)), (ra 9, .inl (kI, 40, .inl q_to)), (ra 13, .inl (kI, 700, .inl q_tape))]) hP hD [3, 4, 2, 0, 1] rfl (by decide +kernel)
            have hP9 := hPD9.1
            have hD9 := hPD9.2
            exact W.vret hx hb hr (fun t ht hW => ⟨⟨(), rfl, trivial, y198, q_told, q_from, q_to, hq199, hq_told, hq_from, hq_to, (show (x0 2).toInt ≤ (y198 2).toInt from by omega), (show y198 3 = x0 3 from hq201.trans (hq188.trans (hq22.trans (hq10)))), (show ∀ j : Nat, (j : Int) < (q_told 1).toInt → (q_from j).toInt < (q_to j).toInt from hLT), (show ∀ j : Nat, (j : Int) < (q_told 5).toInt → (q_from (20 + j)).toInt < (q_to (20 + j)).toInt from hLD), (show RRd tT nN y198 (lnkS tT nN sS (q_told 4) (q_told 5) (shT 20 q_from) (shT 20 q_to)) from it_f (Q := RRd tT nN y198) c1 ((rr_stepN hrr209 c207))), (show y198 8 = 0 → q_told = upd q_told 5 (q_told 5 + 1) ∧ q_from = upd q_from ((20 + (q_told 5)).toNatClampNeg) (lnkA tT nN sS) ∧ q_to = upd q_to ((20 + (q_told 5)).toNatClampNeg) (lnkB tT nN sS (q_told 4) (q_told 5) (shT 20 q_from)) from fun w => absurd w c207), (show LowT q_told q_from q_to q_told q_from q_to from low_0), (show y198 1 = x0 1 from hq203.trans (hq190.trans (hq24.trans (hq13)))), (show y198 10 = x0 10 from hq204.trans (hq191.trans (hq25.trans (hq14)))), (show y198 11 = x0 11 from hq205.trans (hq192.trans (hq26.trans (hq15)))), (show y198 14 = x0 14 from hq206.trans (hq193.trans (hq27.trans (hq16)))), by rw [ht]; exact hP9, hD9⟩, hS.F ht⟩) hS.2.2 dX11_readLink_103
          · have b210 : iv 0 0 (y198 8) := iv_eqL c207 ivk_0
            refine lv_iload_n hx hb dX11_readLink_77 rfl (lv_at hl 0 rfl) ?_
            refine lv_iload_n hx hb dX11_readLink_78 rfl (lv_at hl 1 rfl) ?_
            refine lv_icmp_le (tgt := 91) hx hb dX11_readLink_79 rfl (fun c211 => ?_) (fun c211 => ?_)
            · refine lv_aload_n hx hb dX11_readLink_91 rfl (lv_at hl 2 rfl) ?_
              refine lv_iconst (v := 5) hx hb dX11_readLink_92 ic_5 ?_
              obtain ⟨hPc, hDc, hFc, hJn⟩ := cl_a (wc := [(m0, .inr (11, oX11 ra y198))]) (wr := [(ra 9, .inl (kI, 40, .inl q_to)), (ra 13, .inl (kI, 700, .inl q_tape)), (ra 8, .inl (kI, 40, .inl q_from)), (ra 2, .inl (kI, 8, .inl q_told))]) hP hD hS hA [3] [0, 1, 2, 4] rfl rfl (by decide +kernel)
              refine va_callv (va_runV (As := [.int 5]) (rest := []) ⟨hx, hb, hml, hown, hts⟩ (s11_wrong l dC dI kB kI kJ kZ kC kS H.size m0 ra y198 5 tT nN (rouT tT (q_told 4) (lnk2 tT nN sS (q_told 4) (q_told 5) (shT 20 q_from))) (hq199) ((iv_w ivk_5 (by decide) (by decide))) (hq202)) (cwV 1 hts gX11_readLink_X11_wrong rfl rfl rfl (by decide +kernel) ⟨Nat.le_of_ble_eq_true rfl, Nat.le_of_ble_eq_true rfl⟩) ⟨fun a U g mk q => by obtain ⟨q0, q1, qP, qE, qD⟩ := q; exact ⟨q0, q1, qP, kE_call qE, qD⟩, va_recv hK hP (ci := 11) (q0 := 3) rfl rfl, fun U hU hW => ⟨rfl, by rw [hU], by rw [hU]; exact hPc, kE_warm hW hE, hDc.weaken (fun _ _ _ _ => trivial)⟩⟩ rfl rfl hl.1 rfl (lv_room (Nat.le_of_ble_eq_true rfl)) dX11_readLink_93 ⟨Nat.le_of_ble_eq_true rfl, Nat.le_of_ble_eq_true rfl⟩) hS (fun q _ h => hFc q h) hFc (fun u t H locs ht hvm w213 hB hz1 hk1 hS => ?_)
              obtain ⟨y214, hq215, hq216, hq217, hq218, hq219, hq220, hq221, hq222, hq223, hP1, hD1⟩ := hB
              try dsimp only at w213
              obtain ⟨hPa, hDa⟩ := hJn (w1 := [(m0, .inr (11, oX11 ra y214))]) hk1 ht hP1 hD1
              clear hP hD hPc hDc hFc hJn hP1 hD1 hk1
              have hP : va_P (dC, dI) vwCl [(ra 9, .inl (kI, 40, .inl q_to)), (ra 13, .inl (kI, 700, .inl q_tape)), (ra 8, .inl (kI, 40, .inl q_from)), (ra 2, .inl (kI, 8, .inl q_told)), (m0, .inr (11, oX11 ra y214))] H := hPa
              have hD : va_D A [(ra 9, .inl (kI, 40, .inl q_to)), (ra 13, .inl (kI, 700, .inl q_tape)), (ra 8, .inl (kI, 40, .inl q_from)), (ra 2, .inl (kI, 8, .inl q_told)), (m0, .inr (11, oX11 ra y214))] := hDa
              clear hPa hDa
              refine W.widen (k := 0) (n := 0) (Nat.le_of_ble_eq_true rfl) (Nat.le_of_ble_eq_true rfl) ?_
              have hok9 := rr_ok hq202 c207
              have hb9 := hv8 hok9
              have ha9 := hv9 (ok_ite (ok_next (ok_num (ok_rou hok9)))).1
              have hrr224 : RRd tT nN y214 (iteT (lnkB tT nN sS (q_told 4) (q_told 5) (shT 20 q_from) ≤ lnkA tT nN sS ∨ hasT (shT 20 q_from) (shT 20 q_to) (q_told 5) (lnkA tT nN sS) (lnkB tT nN sS (q_told 4) (q_told 5) (shT 20 q_from))) (failT 5 (lnk3 tT nN sS (q_told 4) (q_told 5) (shT 20 q_from))) (lnk3 tT nN sS (q_told 4) (q_told 5) (shT 20 q_from))) := it_t (Q := RRd tT nN y214) (Or.inl (by have q := c211; rw [ha9, hb9] at q; exact q)) (hq219)
              refine lv_aload_n hx hb dX11_readLink_96 rfl (lv_at hl 2 rfl) ?_
              refine va_get (D := (dC, dI)) (ci := 11) (v := .int (y214 8)) (C := RX11) (T := TX11) (N := 61) hx hb hts hin11 hown hK hP 4 rfl rfl 22 (Nat.le_of_ble_eq_true rfl) hw_1 (fun _ h9 => h9) rfl dX11_readLink_97 ?_
              refine lv_if_eq (tgt := 104) hx hb dX11_readLink_100 rfl (fun c9 => absurd c9 (iv_ne hq216 ivk_0 (by decide))) (fun _ => ?_)
              have hPD9 := cl_s (wc := [(m0, .inr (11, oX11 ra y214)), (ra 2, .inl (kI, 8, .inl q_told)), (ra 8, .inl (kI, 40, .inl q_from)), (ra 9, .inl (kI, 40, .inl q_to)), (ra 13, .inl (kI, 700, .inl q_tape))]) hP hD [4, 3, 2, 0, 1] rfl (by decide +kernel)
              have hP9 := hPD9.1
              have hD9 := hPD9.2
              exact W.vret hx hb hr (fun t ht hW => ⟨⟨(), rfl, trivial, y214, q_told, q_from, q_to, hq215, hq_told, hq_from, hq_to, (show (x0 2).toInt ≤ (y214 2).toInt from by omega), (show y214 3 = x0 3 from hq218.trans (hq201.trans (hq188.trans (hq22.trans (hq10))))), (show ∀ j : Nat, (j : Int) < (q_told 1).toInt → (q_from j).toInt < (q_to j).toInt from hLT), (show ∀ j : Nat, (j : Int) < (q_told 5).toInt → (q_from (20 + j)).toInt < (q_to (20 + j)).toInt from hLD), (show RRd tT nN y214 (lnkS tT nN sS (q_told 4) (q_told 5) (shT 20 q_from) (shT 20 q_to)) from it_f (Q := RRd tT nN y214) c1 ((rr_stepN hrr224 (iv_ne hq216 ivk_0 (by decide))))), (show y214 8 = 0 → q_told = upd q_told 5 (q_told 5 + 1) ∧ q_from = upd q_from ((20 + (q_told 5)).toNatClampNeg) (lnkA tT nN sS) ∧ q_to = upd q_to ((20 + (q_told 5)).toNatClampNeg) (lnkB tT nN sS (q_told 4) (q_told 5) (shT 20 q_from)) from fun w => absurd w (iv_ne hq216 ivk_0 (by decide))), (show LowT q_told q_from q_to q_told q_from q_to from low_0), (show y214 1 = x0 1 from hq220.trans (hq203.trans (hq190.trans (hq24.trans (hq13))))), (show y214 10 = x0 10 from hq221.trans (hq204.trans (hq191.trans (hq25.trans (hq14))))), (show y214 11 = x0 11 from hq222.trans (hq205.trans (hq192.trans (hq26.trans (hq15))))), (show y214 14 = x0 14 from hq223.trans (hq206.trans (hq193.trans (hq27.trans (hq16))))), by rw [ht]; exact hP9, hD9⟩, hS.F ht⟩) hS.2.2 dX11_readLink_103
            · have b225 : iv 0 10 r17 := iv_ltL (Int32.not_le.mp c211) w18.1 w197.1 (by decide) (by decide)
              have b226 : iv 1 11 r196 := iv_ltR (Int32.not_le.mp c211) w18.1 w197.1 (by decide) (by decide)
              refine lv_aload_n hx hb dX11_readLink_82 rfl (lv_at hl 2 rfl) ?_
              refine lv_iload_n hx hb dX11_readLink_83 rfl (lv_at hl 1 rfl) ?_
              refine lv_iload_n hx hb dX11_readLink_84 rfl (lv_at hl 0 rfl) ?_
              obtain ⟨hPc, hDc, hFc, hJn⟩ := cl_a (wc := [(m0, .inr (11, oX11 ra y198)), (ra 2, .inl (kI, 8, .inl q_told)), (ra 8, .inl (kI, 40, .inl q_from)), (ra 9, .inl (kI, 40, .inl q_to))]) (wr := [(ra 13, .inl (kI, 700, .inl q_tape))]) hP hD hS hA [3, 4, 2, 0] [1] rfl rfl (by decide +kernel)
              refine va_calli (va_runV (As := [.int r17, .int r196]) (rest := []) ⟨hx, hb, hml, hown, hts⟩ (s11_hasLink l dC dI kB kI kJ kZ kC kS H.size m0 ra y198 q_told q_from q_to r17 r196 (hq199) (hq_told) (hq_from) (hq_to)) (cwV 2 hts gX11_readLink_X11_hasLink rfl rfl rfl (by decide +kernel) ⟨Nat.le_of_ble_eq_true rfl, Nat.le_of_ble_eq_true rfl⟩) ⟨fun a U g mk q => by obtain ⟨q0, q1, qP, qE, qD⟩ := q; exact ⟨q0, q1, qP, kE_call qE, qD⟩, va_recv hK hP (ci := 11) (q0 := 3) rfl rfl, fun U hU hW => ⟨rfl, by rw [hU], by rw [hU]; exact hPc, kE_warm hW hE, hDc.weaken (fun _ _ _ _ => trivial)⟩⟩ rfl rfl hl.1 rfl (lv_room (Nat.le_of_ble_eq_true rfl)) dX11_readLink_85 ⟨Nat.le_of_ble_eq_true rfl, Nat.le_of_ble_eq_true rfl⟩) hS (fun q _ h => hFc q h) hFc (fun r227 u t H locs ht hvm w228 hB hz1 hk1 hS => ?_)
              obtain ⟨hP1, hD1⟩ := hB
              try dsimp only at w228
              obtain ⟨hPa, hDa⟩ := hJn (w1 := [(m0, .inr (11, oX11 ra y198)), (ra 2, .inl (kI, 8, .inl q_told)), (ra 8, .inl (kI, 40, .inl q_from)), (ra 9, .inl (kI, 40, .inl q_to))]) hk1 ht hP1 hD1
              clear hP hD hPc hDc hFc hJn hP1 hD1 hk1
              have hP : va_P (dC, dI) vwCl [(ra 13, .inl (kI, 700, .inl q_tape)), (m0, .inr (11, oX11 ra y198)), (ra 2, .inl (kI, 8, .inl q_told)), (ra 8, .inl (kI, 40, .inl q_from)), (ra 9, .inl (kI, 40, .inl q_to))] H := hPa
              have hD : va_D A [(ra 13, .inl (kI, 700, .inl q_tape)), (m0, .inr (11, oX11 ra y198)), (ra 2, .inl (kI, 8, .inl q_told)), (ra 8, .inl (kI, 40, .inl q_from)), (ra 9, .inl (kI, 40, .inl q_to))] := hDa
              clear hPa hDa
              refine W.widen (k := 0) (n := 0) (Nat.le_of_ble_eq_true rfl) (Nat.le_of_ble_eq_true rfl) ?_
              have hh9 := w228.2
              refine lv_if_eq (tgt := 96) hx hb dX11_readLink_88 rfl (fun c229 => ?_) (fun c229 => ?_)
              · have b230 : iv 0 0 r227 := iv_eqL c229 ivk_0
                have hok9 := rr_ok hq202 c207
                have hb9 := hv8 hok9
                have ha9 := hv9 (ok_ite (ok_next (ok_num (ok_rou hok9)))).1
                have hrr231 : RRd tT nN y198 (iteT (lnkB tT nN sS (q_told 4) (q_told 5) (shT 20 q_from) ≤ lnkA tT nN sS ∨ hasT (shT 20 q_from) (shT 20 q_to) (q_told 5) (lnkA tT nN sS) (lnkB tT nN sS (q_told 4) (q_told 5) (shT 20 q_from))) (failT 5 (lnk3 tT nN sS (q_told 4) (q_told 5) (shT 20 q_from))) (lnk3 tT nN sS (q_told 4) (q_told 5) (shT 20 q_from))) := it_f (Q := RRd tT nN y198) (by have q := (hh9.resolve_right (fun w => w.1 c229)).2; have q2 := Int32.not_le.mpr (Int32.not_le.mp c211); rw [ha9, hb9] at q q2; exact fun w => w.elim q2 q) (hq202)
                refine lv_aload_n hx hb dX11_readLink_96 rfl (lv_at hl 2 rfl) ?_
                refine va_get (D := (dC, dI)) (ci := 11) (v := .int (y198 8)) (C := RX11) (T := TX11) (N := 61) hx hb hts hin11 hown hK hP 1 rfl rfl 22 (Nat.le_of_ble_eq_true rfl) hw_1 (fun _ h9 => h9) rfl dX11_readLink_97 ?_
                refine lv_if_eq (tgt := 104) hx hb dX11_readLink_100 rfl (fun _ => ?_) (fun c9 => absurd (c207) c9)
                refine lv_aload_n hx hb dX11_readLink_104 rfl (lv_at hl 2 rfl) ?_
                obtain ⟨hPc, hDc, hFc, hJn⟩ := cl_a (wc := [(m0, .inr (11, oX11 ra y198)), (ra 13, .inl (kI, 700, .inl q_tape))]) (wr := [(ra 2, .inl (kI, 8, .inl q_told)), (ra 8, .inl (kI, 40, .inl q_from)), (ra 9, .inl (kI, 40, .inl q_to))]) hP hD hS hA [1, 0] [2, 3, 4] rfl rfl (by decide +kernel)
                refine va_callv (va_runV (As := []) (rest := []) ⟨hx, hb, hml, hown, hts⟩ (s11_stepOn l dC dI kB kI kJ kZ kC kS H.size m0 ra y198 q_tape tT nN (nextT tT nN (iteT (lnkB tT nN sS (q_told 4) (q_told 5) (shT 20 q_from) ≤ lnkA tT nN sS ∨ hasT (shT 20 q_from) (shT 20 q_to) (q_told 5) (lnkA tT nN sS) (lnkB tT nN sS (q_told 4) (q_told 5) (shT 20 q_from))) (failT 5 (lnk3 tT nN sS (q_told 4) (q_told 5) (shT 20 q_from))) (lnk3 tT nN sS (q_told 4) (q_told 5) (shT 20 q_from)))) (hq199) (hq_tape) (hrr231.2) (stp_of hrr231) (hTQ)) (cwV 0 hts gX11_readLink_X11_stepOn rfl rfl rfl (by decide +kernel) ⟨Nat.le_of_ble_eq_true rfl, Nat.le_of_ble_eq_true rfl⟩) ⟨fun a U g mk q => by obtain ⟨q0, q1, qP, qE, qD⟩ := q; exact ⟨q0, q1, qP, kE_call qE, qD⟩, va_recv hK hP (ci := 11) (q0 := 1) rfl rfl, fun U hU hW => ⟨rfl, by rw [hU], by rw [hU]; exact hPc, kE_warm hW hE, hDc.weaken (fun _ _ _ _ => trivial)⟩⟩ rfl rfl hl.1 rfl (lv_room (Nat.le_of_ble_eq_true rfl)) dX11_readLink_105 ⟨Nat.le_of_ble_eq_true rfl, Nat.le_of_ble_eq_true rfl⟩) hS (fun q _ h => hFc q h) hFc (fun u t H locs ht hvm w233 hB hz1 hk1 hS => ?_)
                obtain ⟨y234, hq235, hq236, hq237, hq238, hq239, hq240, hq241, hq242, hq243, hP1, hD1⟩ := hB
                try dsimp only at w233
                obtain ⟨hPa, hDa⟩ := hJn (w1 := [(m0, .inr (11, oX11 ra y234)), (ra 13, .inl (kI, 700, .inl q_tape))]) hk1 ht hP1 hD1
                clear hP hD hPc hDc hFc hJn hP1 hD1 hk1
                have hP : va_P (dC, dI) vwCl [(ra 2, .inl (kI, 8, .inl q_told)), (ra 8, .inl (kI, 40, .inl q_from)), (ra 9, .inl (kI, 40, .inl q_to)), (m0, .inr (11, oX11 ra y234)), (ra 13, .inl (kI, 700, .inl q_tape))] H := hPa
                have hD : va_D A [(ra 2, .inl (kI, 8, .inl q_told)), (ra 8, .inl (kI, 40, .inl q_from)), (ra 9, .inl (kI, 40, .inl q_to)), (m0, .inr (11, oX11 ra y234)), (ra 13, .inl (kI, 700, .inl q_tape))] := hDa
                clear hPa hDa
                refine W.widen (k := 0) (n := 0) (Nat.le_of_ble_eq_true rfl) (Nat.le_of_ble_eq_true rfl) ?_
                refine lv_aload_n hx hb dX11_readLink_108 rfl (lv_at hl 2 rfl) ?_
                refine va_get (D := (dC, dI)) (ci := 11) (v := .ref (ra 8)) (C := RX11) (T := TX11) (N := 61) hx hb hts hin11 hown hK hP 3 rfl rfl 9 (Nat.le_of_ble_eq_true rfl) hw_2 (fun _ h9 => h9) rfl dX11_readLink_109 ?_
                refine lv_bipush (v := 20) hx hb dX11_readLink_112 bp_20 ?_
                refine lv_aload_n hx hb dX11_readLink_114 rfl (lv_at hl 2 rfl) ?_
                refine va_get (D := (dC, dI)) (ci := 11) (v := .ref (ra 2)) (C := RX11) (T := TX11) (N := 61) hx hb hts hin11 hown hK hP 3 rfl rfl 3 (Nat.le_of_ble_eq_true rfl) hw_0 (fun _ h9 => h9) rfl dX11_readLink_115 ?_
                refine lv_iconst (v := 5) hx hb dX11_readLink_118 ic_5 ?_
                refine va_iald hx hb hK hP 0 1 rfl rfl (vp_in_nI (n := 5) (by decide) (by decide)) dX11_readLink_119 ?_
                refine W.eq (g2 := F0 m 120 ls [.int (q_told 5), .int 20, .ref (ra 8)]) rfl ?_
                refine lv_iadd hx hb dX11_readLink_120 ?_
                have b244 : iv 20 39 (20 + (q_told 5)) := iv_add ivk_20 b2 (by decide) (by decide) (by decide) (by decide)
                refine lv_iload_n hx hb dX11_readLink_121 rfl (lv_at hl 1 rfl) ?_
                refine va_iast hx hb hK hP hD hS 1 1 rfl rfl (iv_in b244 (by decide) (by decide)) dX11_readLink_122 (fun H locs hPa hDa hS => ?_)
                clear hP hD
                have hP : va_P (dC, dI) vwCl [(ra 2, .inl (kI, 8, .inl q_told)), (ra 8, .inl (kI, 40, .inl (upd q_from (20 + (q_told 5)).toNatClampNeg r17))), (ra 9, .inl (kI, 40, .inl q_to)), (m0, .inr (11, oX11 ra y234)), (ra 13, .inl (kI, 700, .inl q_tape))] H := hPa
                have hD : va_D A [(ra 2, .inl (kI, 8, .inl q_told)), (ra 8, .inl (kI, 40, .inl (upd q_from (20 + (q_told 5)).toNatClampNeg r17))), (ra 9, .inl (kI, 40, .inl q_to)), (m0, .inr (11, oX11 ra y234)), (ra 13, .inl (kI, 700, .inl q_tape))] := hDa
                clear hPa hDa
                refine lv_aload_n hx hb dX11_readLink_123 rfl (lv_at hl 2 rfl) ?_
                refine va_get (D := (dC, dI)) (ci := 11) (v := .ref (ra 9)) (C := RX11) (T := TX11) (N := 61) hx hb hts hin11 hown hK hP 3 rfl rfl 10 (Nat.le_of_ble_eq_true rfl) hw_3 (fun _ h9 => h9) rfl dX11_readLink_124 ?_
                refine lv_bipush (v := 20) hx hb dX11_readLink_127 bp_20 ?_
                refine lv_aload_n hx hb dX11_readLink_129 rfl (lv_at hl 2 rfl) ?_
                refine va_get (D := (dC, dI)) (ci := 11) (v := .ref (ra 2)) (C := RX11) (T := TX11) (N := 61) hx hb hts hin11 hown hK hP 3 rfl rfl 3 (Nat.le_of_ble_eq_true rfl) hw_0 (fun _ h9 => h9) rfl dX11_readLink_130 ?_
                refine lv_iconst (v := 5) hx hb dX11_readLink_133 ic_5 ?_
                refine va_iald hx hb hK hP 0 1 rfl rfl (vp_in_nI (n := 5) (by decide) (by decide)) dX11_readLink_134 ?_
                refine W.eq (g2 := F0 m 135 ls [.int (q_told 5), .int 20, .ref (ra 9)]) rfl ?_
                refine lv_iadd hx hb dX11_readLink_135 ?_
                have b245 : iv 20 39 (20 + (q_told 5)) := iv_add ivk_20 b2 (by decide) (by decide) (by decide) (by decide)
                refine lv_iload_n hx hb dX11_readLink_136 rfl (lv_at hl 0 rfl) ?_
                refine va_iast hx hb hK hP hD hS 2 1 rfl rfl (iv_in b245 (by decide) (by decide)) dX11_readLink_137 (fun H locs hPa hDa hS => ?_)
                clear hP hD
                have hP : va_P (dC, dI) vwCl [(ra 2, .inl (kI, 8, .inl q_told)), (ra 8, .inl (kI, 40, .inl (upd q_from (20 + (q_told 5)).toNatClampNeg r17))), (ra 9, .inl (kI, 40, .inl (upd q_to (20 + (q_told 5)).toNatClampNeg r196))), (m0, .inr (11, oX11 ra y234)), (ra 13, .inl (kI, 700, .inl q_tape))] H := hPa
                have hD : va_D A [(ra 2, .inl (kI, 8, .inl q_told)), (ra 8, .inl (kI, 40, .inl (upd q_from (20 + (q_told 5)).toNatClampNeg r17))), (ra 9, .inl (kI, 40, .inl (upd q_to (20 + (q_told 5)).toNatClampNeg r196))), (m0, .inr (11, oX11 ra y234)), (ra 13, .inl (kI, 700, .inl q_tape))] := hDa
                clear hPa hDa
                refine lv_aload_n hx hb dX11_readLink_138 rfl (lv_at hl 2 rfl) ?_
                refine va_get (D := (dC, dI)) (ci := 11) (v := .ref (ra 2)) (C := RX11) (T := TX11) (N := 61) hx hb hts hin11 hown hK hP 3 rfl rfl 3 (Nat.le_of_ble_eq_true rfl) hw_0 (fun _ h9 => h9) rfl dX11_readLink_139 ?_
                refine lv_iconst (v := 5) hx hb dX11_readLink_142 ic_5 ?_
                refine lv_dup2_11 hx hb dX11_readLink_143 rfl rfl ?_
                refine va_iald hx hb hK hP 0 1 rfl rfl (vp_in_nI (n := 5) (by decide) (by decide)) dX11_readLink_144 ?_
                refine W.eq (g2 := F0 m 145 ls [.int (q_told 5), .int 5, .ref (ra 2)]) rfl ?_
                refine lv_iconst (v := 1) hx hb dX11_readLink_145 ic_1 ?_
                refine lv_iadd hx hb dX11_readLink_146 ?_
                have b246 : iv 1 20 ((q_told 5) + 1) := iv_add b2 ivk_1 (by decide) (by decide) (by decide) (by decide)
                refine va_iast hx hb hK hP hD hS 0 1 rfl rfl (vp_in_nI (n := 5) (by decide) (by decide)) dX11_readLink_147 (fun H locs hPa hDa hS => ?_)
                clear hP hD
                have hP : va_P (dC, dI) vwCl [(ra 2, .inl (kI, 8, .inl (upd q_told 5 ((q_told 5) + 1)))), (ra 8, .inl (kI, 40, .inl (upd q_from (20 + (q_told 5)).toNatClampNeg r17))), (ra 9, .inl (kI, 40, .inl (upd q_to (20 + (q_told 5)).toNatClampNeg r196))), (m0, .inr (11, oX11 ra y234)), (ra 13, .inl (kI, 700, .inl q_tape))] H := hPa
                have hD : va_D A [(ra 2, .inl (kI, 8, .inl (upd q_told 5 ((q_told 5) + 1)))), (ra 8, .inl (kI, 40, .inl (upd q_from (20 + (q_told 5)).toNatClampNeg r17))), (ra 9, .inl (kI, 40, .inl (upd q_to (20 + (q_told 5)).toNatClampNeg r196))), (m0, .inr (11, oX11 ra y234)), (ra 13, .inl (kI, 700, .inl q_tape))] := hDa
                clear hPa hDa
                have hPD9 := cl_s (wc := [(m0, .inr (11, oX11 ra y234)), (ra 2, .inl (kI, 8, .inl (upd q_told 5 ((q_told 5) + 1)))), (ra 8, .inl (kI, 40, .inl (upd q_from (20 + (q_told 5)).toNatClampNeg r17))), (ra 9, .inl (kI, 40, .inl (upd q_to (20 + (q_told 5)).toNatClampNeg r196))), (ra 13, .inl (kI, 700, .inl q_tape))]) hP hD [3, 0, 1, 2, 4] rfl (by decide +kernel)
                have hP9 := hPD9.1
                have hD9 := hPD9.2
                exact W.vret hx hb hr (fun t ht hW => ⟨⟨(), rfl, trivial, y234, upd q_told 5 ((q_told 5) + 1), upd q_from (20 + (q_told 5)).toNatClampNeg r17, upd q_to (20 + (q_told 5)).toNatClampNeg r196, hq235, (fI_u hq_told (k := 5) ((iv_w b246 (by decide) (by decide)))), (fI_u hq_from (k := (20 + (q_told 5)).toNatClampNeg) ((iv_w b225 (by decide) (by decide)))), (fI_u hq_to (k := (20 + (q_told 5)).toNatClampNeg) ((iv_w b226 (by decide) (by decide)))), (show (x0 2).toInt ≤ (y234 2).toInt from by omega), (show y234 3 = x0 3 from hq237.trans (hq201.trans (hq188.trans (hq22.trans (hq10))))), lk_lt hLT (hq_told 1) (hq_told 5), lk_ld hLD b2 (Int32.not_le.mp c211), (show RRd tT nN y234 (lnkS tT nN sS (q_told 4) (q_told 5) (shT 20 q_from) (shT 20 q_to)) from it_f (Q := RRd tT nN y234) c1 (hq239)), fun _ => ⟨rfl, congrArg (upd q_from ((20 + (q_told 5)).toNatClampNeg)) (hv9 (ok_ite (ok_next (ok_num (ok_rou (ok_ite (rr_ok hrr231 c207)).1)))).1), congrArg (upd q_to ((20 + (q_told 5)).toNatClampNeg)) (hv8 (ok_ite (rr_ok hrr231 c207)).1)⟩, low_l (by decide) (iv_w b2 (by decide) (by decide)), (show y234 1 = x0 1 from hq240.trans (hq203.trans (hq190.trans (hq24.trans (hq13))))), (show y234 10 = x0 10 from hq241.trans (hq204.trans (hq191.trans (hq25.trans (hq14))))), (show y234 11 = x0 11 from hq242.trans (hq205.trans (hq192.trans (hq26.trans (hq15))))), (show y234 14 = x0 14 from hq243.trans (hq206.trans (hq193.trans (hq27.trans (hq16))))), by rw [ht]; exact hP9, hD9⟩, hS.F ht⟩) hS.2.2 dX11_readLink_148
              · have b247 : iv 1 1 r227 := iv_neLo c229 w228.1 ivk_0 (by decide) (by decide)
                refine lv_aload_n hx hb dX11_readLink_91 rfl (lv_at hl 2 rfl) ?_
                refine lv_iconst (v := 5) hx hb dX11_readLink_92 ic_5 ?_
                obtain ⟨hPc, hDc, hFc, hJn⟩ := cl_a (wc := [(m0, .inr (11, oX11 ra y198))]) (wr := [(ra 13, .inl (kI, 700, .inl q_tape)), (ra 2, .inl (kI, 8, .inl q_told)), (ra 8, .inl (kI, 40, .inl q_from)), (ra 9, .inl (kI, 40, .inl q_to))]) hP hD hS hA [1] [0, 2, 3, 4] rfl rfl (by decide +kernel)
                refine va_callv (va_runV (As := [.int 5]) (rest := []) ⟨hx, hb, hml, hown, hts⟩ (s11_wrong l dC dI kB kI kJ kZ kC kS H.size m0 ra y198 5 tT nN (rouT tT (q_told 4) (lnk2 tT nN sS (q_told 4) (q_told 5) (shT 20 q_from))) (hq199) ((iv_w ivk_5 (by decide) (by decide))) (hq202)) (cwV 1 hts gX11_readLink_X11_wrong rfl rfl rfl (by decide +kernel) ⟨Nat.le_of_ble_eq_true rfl, Nat.le_of_ble_eq_true rfl⟩) ⟨fun a U g mk q => by obtain ⟨q0, q1, qP, qE, qD⟩ := q; exact ⟨q0, q1, qP, kE_call qE, qD⟩, va_recv hK hP (ci := 11) (q0 := 1) rfl rfl, fun U hU hW => ⟨rfl, by rw [hU], by rw [hU]; exact hPc, kE_warm hW hE, hDc.weaken (fun _ _ _ _ => trivial)⟩⟩ rfl rfl hl.1 rfl (lv_room (Nat.le_of_ble_eq_true rfl)) dX11_readLink_93 ⟨Nat.le_of_ble_eq_true rfl, Nat.le_of_ble_eq_true rfl⟩) hS (fun q _ h => hFc q h) hFc (fun u t H locs ht hvm w249 hB hz1 hk1 hS => ?_)
                obtain ⟨y250, hq251, hq252, hq253, hq254, hq255, hq256, hq257, hq258, hq259, hP1, hD1⟩ := hB
                try dsimp only at w249
                obtain ⟨hPa, hDa⟩ := hJn (w1 := [(m0, .inr (11, oX11 ra y250))]) hk1 ht hP1 hD1
                clear hP hD hPc hDc hFc hJn hP1 hD1 hk1
                have hP : va_P (dC, dI) vwCl [(ra 13, .inl (kI, 700, .inl q_tape)), (ra 2, .inl (kI, 8, .inl q_told)), (ra 8, .inl (kI, 40, .inl q_from)), (ra 9, .inl (kI, 40, .inl q_to)), (m0, .inr (11, oX11 ra y250))] H := hPa
                have hD : va_D A [(ra 13, .inl (kI, 700, .inl q_tape)), (ra 2, .inl (kI, 8, .inl q_told)), (ra 8, .inl (kI, 40, .inl q_from)), (ra 9, .inl (kI, 40, .inl q_to)), (m0, .inr (11, oX11 ra y250))] := hDa
                clear hPa hDa
                refine W.widen (k := 0) (n := 0) (Nat.le_of_ble_eq_true rfl) (Nat.le_of_ble_eq_true rfl) ?_
                have hok9 := rr_ok hq202 c207
                have hb9 := hv8 hok9
                have ha9 := hv9 (ok_ite (ok_next (ok_num (ok_rou hok9)))).1
                have hrr260 : RRd tT nN y250 (iteT (lnkB tT nN sS (q_told 4) (q_told 5) (shT 20 q_from) ≤ lnkA tT nN sS ∨ hasT (shT 20 q_from) (shT 20 q_to) (q_told 5) (lnkA tT nN sS) (lnkB tT nN sS (q_told 4) (q_told 5) (shT 20 q_from))) (failT 5 (lnk3 tT nN sS (q_told 4) (q_told 5) (shT 20 q_from))) (lnk3 tT nN sS (q_told 4) (q_told 5) (shT 20 q_from))) := it_t (Q := RRd tT nN y250) (Or.inr (by have q := (hh9.resolve_left (fun w => c229 w.1)).2; rw [ha9, hb9] at q; exact q)) (hq255)
                refine lv_aload_n hx hb dX11_readLink_96 rfl (lv_at hl 2 rfl) ?_
                refine va_get (D := (dC, dI)) (ci := 11) (v := .int (y250 8)) (C := RX11) (T := TX11) (N := 61) hx hb hts hin11 hown hK hP 4 rfl rfl 22 (Nat.le_of_ble_eq_true rfl) hw_1 (fun _ h9 => h9) rfl dX11_readLink_97 ?_
                refine lv_if_eq (tgt := 104) hx hb dX11_readLink_100 rfl (fun c9 => absurd c9 (iv_ne hq252 ivk_0 (by decide))) (fun _ => ?_)
                have hPD9 := cl_s (wc := [(m0, .inr (11, oX11 ra y250)), (ra 2, .inl (kI, 8, .inl q_told)), (ra 8, .inl (kI, 40, .inl q_from)), (ra 9, .inl (kI, 40, .inl q_to)), (ra 13, .inl (kI, 700, .inl q_tape))]) hP hD [4, 1, 2, 3, 0] rfl (by decide +kernel)
                have hP9 := hPD9.1
                have hD9 := hPD9.2
                exact W.vret hx hb hr (fun t ht hW => ⟨⟨(), rfl, trivial, y250, q_told, q_from, q_to, hq251, hq_told, hq_from, hq_to, (show (x0 2).toInt ≤ (y250 2).toInt from by omega), (show y250 3 = x0 3 from hq254.trans (hq201.trans (hq188.trans (hq22.trans (hq10))))), (show ∀ j : Nat, (j : Int) < (q_told 1).toInt → (q_from j).toInt < (q_to j).toInt from hLT), (show ∀ j : Nat, (j : Int) < (q_told 5).toInt → (q_from (20 + j)).toInt < (q_to (20 + j)).toInt from hLD), (show RRd tT nN y250 (lnkS tT nN sS (q_told 4) (q_told 5) (shT 20 q_from) (shT 20 q_to)) from it_f (Q := RRd tT nN y250) c1 ((rr_stepN hrr260 (iv_ne hq252 ivk_0 (by decide))))), (show y250 8 = 0 → q_told = upd q_told 5 (q_told 5 + 1) ∧ q_from = upd q_from ((20 + (q_told 5)).toNatClampNeg) (lnkA tT nN sS) ∧ q_to = upd q_to ((20 + (q_told 5)).toNatClampNeg) (lnkB tT nN sS (q_told 4) (q_told 5) (shT 20 q_from)) from fun w => absurd w (iv_ne hq252 ivk_0 (by decide))), (show LowT q_told q_from q_to q_told q_from q_to from low_0), (show y250 1 = x0 1 from hq256.trans (hq203.trans (hq190.trans (hq24.trans (hq13))))), (show y250 10 = x0 10 from hq257.trans (hq204.trans (hq191.trans (hq25.trans (hq14))))), (show y250 11 = x0 11 from hq258.trans (hq205.trans (hq192.trans (hq26.trans (hq15))))), (show y250 14 = x0 14 from hq259.trans (hq206.trans (hq193.trans (hq27.trans (hq16))))), by rw [ht]; exact hP9, hD9⟩, hS.F ht⟩) hS.2.2 dX11_readLink_103
    · have b261 : iv 1 5 (x0 8) := iv_neLo c3 (hX 8 : iv 0 5 (x0 8)) ivk_0 (by decide) (by decide)
      have hP9 := hP
      have hD9 := hD
      exact W.vret hx hb hr (fun t ht hW => ⟨⟨(), rfl, trivial, x0, q_told, q_from, q_to, hX, hq_told, hq_from, hq_to, (show (x0 2).toInt ≤ (x0 2).toInt from by omega), (show x0 3 = x0 3 from rfl), (show ∀ j : Nat, (j : Int) < (q_told 1).toInt → (q_from j).toInt < (q_to j).toInt from hLT), (show ∀ j : Nat, (j : Int) < (q_told 5).toInt → (q_from (20 + j)).toInt < (q_to (20 + j)).toInt from hLD), (show RRd tT nN x0 (lnkS tT nN sS (q_told 4) (q_told 5) (shT 20 q_from) (shT 20 q_to)) from (lk_in hRr c3) ▸ hRr), (show x0 8 = 0 → q_told = upd q_told 5 (q_told 5 + 1) ∧ q_from = upd q_from ((20 + (q_told 5)).toNatClampNeg) (lnkA tT nN sS) ∧ q_to = upd q_to ((20 + (q_told 5)).toNatClampNeg) (lnkB tT nN sS (q_told 4) (q_told 5) (shT 20 q_from)) from fun w => absurd w c3), (show LowT q_told q_from q_to q_told q_from q_to from low_0), (show x0 1 = x0 1 from rfl), (show x0 10 = x0 10 from rfl), (show x0 11 = x0 11 from rfl), (show x0 14 = x0 14 from rfl), by rw [ht]; exact hP9, hD9⟩, hS.F ht⟩) hS.2.2 dX11_readLink_23
  · have b262 : iv 20 20 (q_told 5) := iv_eqL c1 ivk_20
    refine lv_aload_n hx hb dX11_readLink_11 rfl (lv_at hl 0 rfl) ?_
    refine lv_iconst (v := 2) hx hb dX11_readLink_12 ic_2 ?_
    obtain ⟨hPc, hDc, hFc, hJn⟩ := cl_a (wc := [(m0, .inr (11, oX11 ra x0))]) (wr := [(ra 2, .inl (kI, 8, .inl q_told)), (ra 8, .inl (kI, 40, .inl q_from)), (ra 9, .inl (kI, 40, .inl q_to)), (ra 13, .inl (kI, 700, .inl q_tape))]) hP hD hS hA [0] [1, 2, 3, 4] rfl rfl (by decide +kernel)
    refine va_callv (va_runV (As := [.int 2]) (rest := []) ⟨hx, hb, hml, hown, hts⟩ (s11_wrong l dC dI kB kI kJ kZ kC kS s.heap.size m0 ra x0 2 tT nN sS (hX) ((iv_w ivk_2 (by decide) (by decide))) (hRr)) (cwV 1 hts gX11_readLink_X11_wrong rfl rfl rfl (by decide +kernel) ⟨Nat.le_of_ble_eq_true rfl, Nat.le_of_ble_eq_true rfl⟩) ⟨fun a U g mk q => by obtain ⟨q0, q1, qP, qE, qD⟩ := q; exact ⟨q0, q1, qP, kE_call qE, qD⟩, va_recv hK hP (ci := 11) (q0 := 0) rfl rfl, fun U hU hW => ⟨rfl, by rw [hU], by rw [hU]; exact hPc, kE_warm hW hE, hDc.weaken (fun _ _ _ _ => trivial)⟩⟩ rfl rfl hl.1 rfl (lv_room (Nat.le_of_ble_eq_true rfl)) dX11_readLink_13 ⟨Nat.le_of_ble_eq_true rfl, Nat.le_of_ble_eq_true rfl⟩) hS (fun q _ h => hFc q h) hFc (fun u t H locs ht hvm w264 hB hz1 hk1 hS => ?_)
    obtain ⟨y265, hq266, hq267, hq268, hq269, hq270, hq271, hq272, hq273, hq274, hP1, hD1⟩ := hB
    try dsimp only at w264
    obtain ⟨hPa, hDa⟩ := hJn (w1 := [(m0, .inr (11, oX11 ra y265))]) hk1 ht hP1 hD1
    clear hP hD hPc hDc hFc hJn hP1 hD1 hk1
    have hP : va_P (dC, dI) vwCl [(ra 2, .inl (kI, 8, .inl q_told)), (ra 8, .inl (kI, 40, .inl q_from)), (ra 9, .inl (kI, 40, .inl q_to)), (ra 13, .inl (kI, 700, .inl q_tape)), (m0, .inr (11, oX11 ra y265))] H := hPa
    have hD : va_D A [(ra 2, .inl (kI, 8, .inl q_told)), (ra 8, .inl (kI, 40, .inl q_from)), (ra 9, .inl (kI, 40, .inl q_to)), (ra 13, .inl (kI, 700, .inl q_tape)), (m0, .inr (11, oX11 ra y265))] := hDa
    clear hPa hDa
    refine W.widen (k := 0) (n := 0) (Nat.le_of_ble_eq_true rfl) (Nat.le_of_ble_eq_true rfl) ?_
    refine lv_aload_n hx hb dX11_readLink_16 rfl (lv_at hl 0 rfl) ?_
    refine va_get (D := (dC, dI)) (ci := 11) (v := .int (y265 8)) (C := RX11) (T := TX11) (N := 61) hx hb hts hin11 hown hK hP 4 rfl rfl 22 (Nat.le_of_ble_eq_true rfl) hw_1 (fun _ h9 => h9) rfl dX11_readLink_17 ?_
    refine lv_if_eq (tgt := 24) hx hb dX11_readLink_20 rfl (fun c9 => absurd c9 (iv_ne hq267 ivk_0 (by decide))) (fun _ => ?_)
    have hPD9 := cl_s (wc := [(m0, .inr (11, oX11 ra y265)), (ra 2, .inl (kI, 8, .inl q_told)), (ra 8, .inl (kI, 40, .inl q_from)), (ra 9, .inl (kI, 40, .inl q_to)), (ra 13, .inl (kI, 700, .inl q_tape))]) hP hD [4, 0, 1, 2, 3] rfl (by decide +kernel)
    have hP9 := hPD9.1
    have hD9 := hPD9.2
    exact W.vret hx hb hr (fun t ht hW => ⟨⟨(), rfl, trivial, y265, q_told, q_from, q_to, hq266, hq_told, hq_from, hq_to, (show (x0 2).toInt ≤ (y265 2).toInt from by omega), (show y265 3 = x0 3 from hq269), (show ∀ j : Nat, (j : Int) < (q_told 1).toInt → (q_from j).toInt < (q_to j).toInt from hLT), (show ∀ j : Nat, (j : Int) < (q_told 5).toInt → (q_from (20 + j)).toInt < (q_to (20 + j)).toInt from hLD), (show RRd tT nN y265 (lnkS tT nN sS (q_told 4) (q_told 5) (shT 20 q_from) (shT 20 q_to)) from it_t (Q := RRd tT nN y265) c1 (hq270)), (show y265 8 = 0 → q_told = upd q_told 5 (q_told 5 + 1) ∧ q_from = upd q_from ((20 + (q_told 5)).toNatClampNeg) (lnkA tT nN sS) ∧ q_to = upd q_to ((20 + (q_told 5)).toNatClampNeg) (lnkB tT nN sS (q_told 4) (q_told 5) (shT 20 q_from)) from fun w => absurd w (rr_nf hq270)), (show LowT q_told q_from q_to q_told q_from q_to from low_0), (show y265 1 = x0 1 from hq271), (show y265 10 = x0 10 from hq272), (show y265 11 = x0 11 from hq273), (show y265 14 = x0 14 from hq274), by rw [ht]; exact hP9, hD9⟩, hS.F ht⟩) hS.2.2 dX11_readLink_23
