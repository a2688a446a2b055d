def rm_s11_isAddress : Room := { frames := 1, cells := 0, slots := 0, locals := 22 }
set_option maxHeartbeats 4000000 in
set_option maxRecDepth 100000 in
theorem s11_isAddress (l : Launch) (dC : Nat → ClassId) (dI : Nat → Nat → Nat) (kB kI kJ kZ kC kS : ClassId) (sz : Nat) (m0 : Nat) (ra : Nat → Nat) (x0 : Nat → Int32) (q_told : Nat → Int32) (p0 : Int32) (hX : fI lX11 hX11 x0) (hq_told : fI lTold hTold q_told) : Met l yX11_isAddress wsX11_isAddress rm_s11_isAddress (va_Pc [.ref m0, .int p0] (fun U => U.heap.size = sz ∧ va_P (dC, dI) vwCl [(m0, .inr (11, oX11 ra x0)), (ra 2, .inl (kI, 8, .inl q_told))] U.heap ∧ kE dC dI kB kI kJ kZ kC kS U ∧ va_D (fun _ => True) [(m0, .inr (11, oX11 ra x0)), (ra 2, .inl (kI, 8, .inl q_told))])) (va_Qi (fun (r : Int32) (_ : Unit) => iv 0 1 r ∧ (r = 0 ∨ iv 0 20 p0)) (fun _ t => va_P (dC, dI) vwCl [(m0, .inr (11, oX11 ra x0)), (ra 2, .inl (kI, 8, .inl q_told))] t.heap ∧ va_D (va_A [(m0, .inr (11, oX11 ra x0)), (ra 2, .inl (kI, 8, .inl q_told))] sz) [(m0, .inr (11, oX11 ra x0)), (ra 2, .inl (kI, 8, .inl q_told))]) (va_A [(m0, .inr (11, oX11 ra x0)), (ra 2, .inl (kI, 8, .inl q_told))] sz)) 0 0 (va_A [(m0, .inr (11, oX11 ra x0)), (ra 2, .inl (kI, 8, .inl q_told))] sz) := by
  refine Met.ofW (cc := cX11_isAddress) (maxL := 2) (ret := (some .boolean)) (by decide) rfl ?_
  intro p e s m args0 below meth c s₁ B hml hv
  obtain ⟨hargs, hsz, hP, hE, hD0⟩ := hv
  have hx := B.exec
  have hb := B.bytes
  have hr := B.returns
  have hts := atoms_spec (ws := wsX11_isAddress) B.pre
  have hown : s.vm.findClass RX11 = some m.cls := findClass_of_methodNamed B.named
  have hlocks := B.notSynchronized
  have hK := hE.1
  have hin11 : ∀ w ∈ wsX110, w ∈ wsX11_isAddress := fun _ h9 => List.mem_cons_of_mem _ (List.mem_append_right _ h9)
  subst hsz
  have hD := hD0.self (sz := s.heap.size)
  generalize hAe : va_A [(m0, .inr (11, oX11 ra x0)), (ra 2, .inl (kI, 8, .inl q_told))] s.heap.size = A at hD ⊢
  have hA : ∀ q : Nat, s.heap.size ≤ q → A q := fun q h => by rw [← hAe]; exact Or.inr h
  have hS : va_S A s.heap s.heap [] := va_S.rf
  have hP : va_P (dC, dI) vwCl [(m0, .inr (11, oX11 ra x0)), (ra 2, .inl (kI, 8, .inl q_told))] s.heap := hP
  have hl := lv_entry ([.ref m0, .int p0]) (n := 2) (Nat.le_of_ble_eq_true rfl)
  have hla : entryFrame m args0 2 = entryFrame m ([.ref m0, .int p0] : List Value).toArray 2 := by rw [hargs]
  rw [hla, lg_entry_eq]
  generalize (lg_sl ([.ref m0, .int p0]) ++ List.replicate (2 - (lg_sl ([.ref m0, .int p0])).length) Slot.unset).toArray = ls at hl ⊢
  have hl : lv_has ls 2 [(0, .ref m0), (1, .int p0)] := hl
  have hJ23 : ∀ (H : Heap) (locs : List Loc) (ls : Array Slot), (x0 1 = x0 1) → (x0 10 = x0 10) → (x0 23 = x0 23) → va_P (dC, dI) vwCl [(m0, .inr (11, oX11 ra x0)), (ra 2, .inl (kI, 8, .inl q_told))] H → va_D A [(m0, .inr (11, oX11 ra x0)), (ra 2, .inl (kI, 8, .inl q_told))] → va_S A s.heap H locs → lv_has ls 2 [(0, .ref m0), (1, .int p0)] → W p l e (headSpec wsX11_isAddress rm_s11_isAddress).room s m args0 below meth c H locs (0) (0) (MQ below (va_Qi (fun (r : Int32) (_ : Unit) => iv 0 1 r ∧ (r = 0 ∨ iv 0 20 p0)) (fun _ t => va_P (dC, dI) vwCl [(m0, .inr (11, oX11 ra x0)), (ra 2, .inl (kI, 8, .inl q_told))] t.heap ∧ va_D A [(m0, .inr (11, oX11 ra x0)), (ra 2, .inl (kI, 8, .inl q_told))]) A) args0 s 0 0 A) (F0 m 23 ls []) := by
    intro H locs ls htp_23 hfp_23 hhm_23 hP hD hS hl
    refine lv_iconst (v := 0) hx hb dX11_isAddress_23 ic_0 ?_
    have hP9 := hP
    have hD9 := hD
    exact W.zret (v := 0) (ty := .boolean) hx hb hr rfl (fun t ht hW => ⟨⟨0, (), rfl, ⟨(iv_w ivk_0 (by decide) (by decide)), Or.inl rfl⟩, by rw [ht]; exact hP9, hD9⟩, hS.F ht⟩) hS.2.2 dX11_isAddress_24
  refine lv_iload_n hx hb dX11_isAddress_0 rfl (lv_at hl 1 rfl) ?_
  refine lv_iconst (v := 0) hx hb dX11_isAddress_1 ic_0 ?_
  refine lv_aload_n hx hb dX11_isAddress_2 rfl (lv_at hl 0 rfl) ?_
  obtain ⟨hPc, hDc, hFc, hJn⟩ := cl_a (wc := [(m0, .inr (11, oX11 ra x0)), (ra 2, .inl (kI, 8, .inl q_told))]) (wr := []) hP hD hS hA [0, 1] [] rfl rfl (by decide +kernel)
  refine va_calli (va_runV (As := []) (rest := [.int 0, .int p0]) ⟨hx, hb, hml, hown, hts⟩ (s11_links l dC dI kB kI kJ kZ kC kS s.heap.size m0 ra x0 q_told (hX) (hq_told)) (cwV 0 hts gX11_isAddress_X11_links rfl rfl rfl (by decide +kernel) ⟨Nat.le_of_ble_eq_true rfl, Nat.le_of_ble_eq_true rfl⟩) ⟨fun a U g mk q => by obtain ⟨q0, q1, qP, qE, qD⟩ := q; exact ⟨q0, q1, qP, kE_call qE, qD⟩, va_recv hK hP (ci := 11) (q0 := 0) rfl rfl, fun U hU hW => ⟨rfl, by rw [hU], by rw [hU]; exact hPc, kE_warm hW hE, hDc.weaken (fun _ _ _ _ => trivial)⟩⟩ rfl rfl hl.1 rfl (lv_room (Nat.le_of_ble_eq_true rfl)) dX11_isAddress_3 ⟨Nat.le_of_ble_eq_true rfl, Nat.le_of_ble_eq_true rfl⟩) hS (fun q _ h => hFc q h) hFc (fun r1 u t H locs ht hvm w2 hB hz1 hk1 hS => ?_)
  obtain ⟨hP1, hD1⟩ := hB
  try dsimp only at w2
  obtain ⟨hPa, hDa⟩ := hJn (w1 := [(m0, .inr (11, oX11 ra x0)), (ra 2, .inl (kI, 8, .inl q_told))]) hk1 ht hP1 hD1
  clear hP hD hPc hDc hFc hJn hP1 hD1 hk1
  have hP : va_P (dC, dI) vwCl [(m0, .inr (11, oX11 ra x0)), (ra 2, .inl (kI, 8, .inl q_told))] H := hPa
  have hD : va_D A [(m0, .inr (11, oX11 ra x0)), (ra 2, .inl (kI, 8, .inl q_told))] := hDa
  clear hPa hDa
  refine W.widen (k := 0) (n := 0) (Nat.le_of_ble_eq_true rfl) (Nat.le_of_ble_eq_true rfl) ?_
  subst w2
  obtain ⟨hPc, hDc, hFc, hJn⟩ := cl_a (wc := []) (wr := [(m0, .inr (11, oX11 ra x0)), (ra 2, .inl (kI, 8, .inl q_told))]) hP hD hS hA [] [0, 1] rfl rfl (by decide +kernel)
  refine va_calli (va_runS (As := [.int p0, .int 0, .int (q_told 1)]) (rest := []) ⟨hx, hb, hml, hown, hts⟩ (s11_isIn l dC dI kB kI kJ kZ kC kS H.size p0 0 (q_told 1)) (va_cwS 3 hts gX11_isAddress_X11_isIn rfl rfl rfl (by decide +kernel) ⟨Nat.le_of_ble_eq_true rfl, Nat.le_of_ble_eq_true rfl⟩) ⟨fun a U g mk q => by obtain ⟨q0, q1, qP, qE, qD⟩ := q; exact ⟨q0, q1, qP, kE_call qE, qD⟩, fun U hU hW => ⟨rfl, by rw [hU], by rw [hU]; exact hPc, kE_warm hW hE, hDc.weaken (fun _ _ _ _ => trivial)⟩⟩ rfl rfl hl.1 rfl (lv_room (Nat.le_of_ble_eq_true rfl)) dX11_isAddress_6 ⟨Nat.le_of_ble_eq_true rfl, Nat.le_of_ble_eq_true rfl⟩) hS (fun q _ h => hFc q h) hFc (fun r3 u t H locs ht hvm w4 hB hz1 hk1 hS => ?_)
  obtain ⟨hP1, hD1⟩ := hB
  try dsimp only at w4
  obtain ⟨hPa, hDa⟩ := hJn (w1 := []) hk1 ht hP1 hD1
  clear hP hD hPc hDc hFc hJn hP1 hD1 hk1
  have hP : va_P (dC, dI) vwCl [(m0, .inr (11, oX11 ra x0)), (ra 2, .inl (kI, 8, .inl q_told))] H := hPa
  have hD : va_D A [(m0, .inr (11, oX11 ra x0)), (ra 2, .inl (kI, 8, .inl q_told))] := hDa
  clear hPa hDa
  refine W.widen (k := 0) (n := 0) (Nat.le_of_ble_eq_true rfl) (Nat.le_of_ble_eq_true rfl) ?_
  refine lv_if_eq (tgt := 23) hx hb dX11_isAddress_9 rfl (fun c5 => ?_) (fun c5 => ?_)
  · have b6 : iv 0 0 r3 := iv_eqL c5 ivk_0
    exact hJ23 _ _ _ ((show x0 1 = x0 1 from rfl)) ((show x0 10 = x0 10 from rfl)) ((show x0 23 = x0 23 from rfl)) (hP) (hD) hS (lv_sub hl [0, 1] rfl)
  · have b7 : iv 1 1 r3 := iv_neLo c5 w4.1 ivk_0 (by decide) (by decide)
    have hr8 := (w4.2).resolve_left (iv_ne b7 ivk_0 (by decide))
    have b9 : iv 0 20 p0 := iv_cap (in_iv hr8 ivk_0 (hq_told 1 : iv 0 20 (q_told 1))) (iv_t p0) (by decide) (by decide)
    refine lv_aload_n hx hb dX11_isAddress_12 rfl (lv_at hl 0 rfl) ?_
    obtain ⟨hPc, hDc, hFc, hJn⟩ := cl_a (wc := [(m0, .inr (11, oX11 ra x0)), (ra 2, .inl (kI, 8, .inl q_told))]) (wr := []) hP hD hS hA [0, 1] [] rfl rfl (by decide +kernel)
    refine va_calli (va_runV (As := []) (rest := []) ⟨hx, hb, hml, hown, hts⟩ (s11_routers l dC dI kB kI kJ kZ kC kS H.size m0 ra x0 q_told (hX) (hq_told)) (cwV 0 hts gX11_isAddress_X11_routers rfl rfl rfl (by decide +kernel) ⟨Nat.le_of_ble_eq_true rfl, Nat.le_of_ble_eq_true rfl⟩) ⟨fun a U g mk q => by obtain ⟨q0, q1, qP, qE, qD⟩ := q; exact ⟨q0, q1, qP, kE_call qE, qD⟩, va_recv hK hP (ci := 11) (q0 := 0) rfl rfl, fun U hU hW => ⟨rfl, by rw [hU], by rw [hU]; exact hPc, kE_warm hW hE, hDc.weaken (fun _ _ _ _ => trivial)⟩⟩ rfl rfl hl.1 rfl (lv_room (Nat.le_of_ble_eq_true rfl)) dX11_isAddress_13 ⟨Nat.le_of_ble_eq_true rfl, Nat.le_of_ble_eq_true rfl⟩) hS (fun q _ h => hFc q h) hFc (fun r10 u t H locs ht hvm w11 hB hz1 hk1 hS => ?_)
    obtain ⟨hP1, hD1⟩ := hB
    try dsimp only at w11
    obtain ⟨hPa, hDa⟩ := hJn (w1 := [(m0, .inr (11, oX11 ra x0)), (ra 2, .inl (kI, 8, .inl q_told))]) hk1 ht hP1 hD1
    clear hP hD hPc hDc hFc hJn hP1 hD1 hk1
    have hP : va_P (dC, dI) vwCl [(m0, .inr (11, oX11 ra x0)), (ra 2, .inl (kI, 8, .inl q_told))] H := hPa
    have hD : va_D A [(m0, .inr (11, oX11 ra x0)), (ra 2, .inl (kI, 8, .inl q_told))] := hDa
    clear hPa hDa
    refine W.widen (k := 0) (n := 0) (Nat.le_of_ble_eq_true rfl) (Nat.le_of_ble_eq_true rfl) ?_
    subst w11
    refine lv_if_le (tgt := 23) hx hb dX11_isAddress_16 rfl (fun c12 => ?_) (fun c12 => ?_)
    · have b13 : iv 0 0 (q_told 0) := iv_leL c12 (hq_told 0 : iv 0 12 (q_told 0)) ivk_0 (by decide) (by decide)
      exact hJ23 _ _ _ ((show x0 1 = x0 1 from rfl)) ((show x0 10 = x0 10 from rfl)) ((show x0 23 = x0 23 from rfl)) (hP) (hD) hS (lv_sub hl [0, 1] rfl)
    · have b14 : iv 1 12 (q_told 0) := iv_ltR (Int32.not_le.mp c12) ivk_0 (hq_told 0 : iv 0 12 (q_told 0)) (by decide) (by decide)
      refine lv_iconst (v := 1) hx hb dX11_isAddress_19 ic_1 ?_
      refine lv_goto (tgt := 24) hx hb dX11_isAddress_20 rfl ?_
      have hP9 := hP
      have hD9 := hD
      exact W.zret (v := 1) (ty := .boolean) hx hb hr rfl (fun t ht hW => ⟨⟨1, (), rfl, ⟨(iv_w ivk_1 (by decide) (by decide)), Or.inr (b9)⟩, by rw [ht]; exact hP9, hD9⟩, hS.F ht⟩) hS.2.2 dX11_isAddress_24
def rm_s11_wasSeen : Room := { frames := 4, cells := 0, slots := 0, locals := 92 }
set_option maxHeartbeats 4000000 in
set_option maxRecDepth 100000 in
theorem s11_wasSeen (l : Launch) (dC : Nat → ClassId) (dI : Nat → Nat → Nat) (kB kI kJ kZ kC kS : ClassId) (sz : Nat) (m0 : Nat) (ra : Nat → Nat) (x0 : Nat → Int32) (q_told : Nat → Int32) (q_now : Nat → Int32) (p0 : Int32) (hX : fI lX11 hX11 x0) (hq_told : fI lTold hTold q_told) (hq_now : fI lNow hNow q_now) : Met l yX11_wasSeen wsX11_wasSeen rm_s11_wasSeen (va_Pc [.ref m0, .int p0] (fun U => U.heap.size = sz ∧ va_P (dC, dI) vwCl [(m0, .inr (11, oX11 ra x0)), (ra 2, .inl (kI, 8, .inl q_told)), (ra 11, .inl (kI, 1019, .inl q_now))] U.heap ∧ kE dC dI kB kI kJ kZ kC kS U ∧ va_D (fun _ => True) [(m0, .inr (11, oX11 ra x0)), (ra 2, .inl (kI, 8, .inl q_told)), (ra 11, .inl (kI, 1019, .inl q_now))])) (va_Qi (fun (r : Int32) (_ : Unit) => iv 0 1 r ∧ (r = 0 ∨ iv 0 20 p0)) (fun _ t => va_P (dC, dI) vwCl [(m0, .inr (11, oX11 ra x0)), (ra 2, .inl (kI, 8, .inl q_told)), (ra 11, .inl (kI, 1019, .inl q_now))] t.heap ∧ va_D (va_A [(m0, .inr (11, oX11 ra x0)), (ra 2, .inl (kI, 8, .inl q_told)), (ra 11, .inl (kI, 1019, .inl q_now))] sz) [(m0, .inr (11, oX11 ra x0)), (ra 2, .inl (kI, 8, .inl q_told)), (ra 11, .inl (kI, 1019, .inl q_now))]) (va_A [(m0, .inr (11, oX11 ra x0)), (ra 2, .inl (kI, 8, .inl q_told)), (ra 11, .inl (kI, 1019, .inl q_now))] sz)) 0 0 (va_A [(m0, .inr (11, oX11 ra x0)), (ra 2, .inl (kI, 8, .inl q_told)), (ra 11, .inl (kI, 1019, .inl q_now))] sz) := by
  refine Met.ofW (cc := cX11_wasSeen) (maxL := 2) (ret := (some .boolean)) (by decide) rfl ?_
  intro p e s m args0 below meth c s₁ B hml hv
  obtain ⟨hargs, hsz, hP, hE, hD0⟩ := hv
  have hx := B.exec
  have hb := B.bytes
  have hr := B.returns
  have hts := atoms_spec (ws := wsX11_wasSeen) B.pre
  have hown : s.vm.findClass RX11 = some m.cls := findClass_of_methodNamed B.named
  have hlocks := B.notSynchronized
  have hK := hE.1
  have hin11 : ∀ w ∈ wsX110, w ∈ wsX11_wasSeen := fun _ h9 => List.mem_cons_of_mem _ (List.mem_append_right _ h9)
  subst hsz
  have hD := hD0.self (sz := s.heap.size)
  generalize hAe : va_A [(m0, .inr (11, oX11 ra x0)), (ra 2, .inl (kI, 8, .inl q_told)), (ra 11, .inl (kI, 1019, .inl q_now))] s.heap.size = A at hD ⊢
  have hA : ∀ q : Nat, s.heap.size ≤ q → A q := fun q h => by rw [← hAe]; exact Or.inr h
  have hS : va_S A s.heap s.heap [] := va_S.rf
  have hP : va_P (dC, dI) vwCl [(m0, .inr (11, oX11 ra x0)), (ra 2, .inl (kI, 8, .inl q_told)), (ra 11, .inl (kI, 1019, .inl q_now))] s.heap := hP
  have hl := lv_entry ([.ref m0, .int p0]) (n := 2) (Nat.le_of_ble_eq_true rfl)
  have hla : entryFrame m args0 2 = entryFrame m ([.ref m0, .int p0] : List Value).toArray 2 := by rw [hargs]
  rw [hla, lg_entry_eq]
  generalize (lg_sl ([.ref m0, .int p0]) ++ List.replicate (2 - (lg_sl ([.ref m0, .int p0])).length) Slot.unset).toArray = ls at hl ⊢
  have hl : lv_has ls 2 [(0, .ref m0), (1, .int p0)] := hl
  have hJ24 : ∀ (H : Heap) (locs : List Loc) (ls : Array Slot), (x0 1 = x0 1) → (x0 10 = x0 10) → (x0 23 = x0 23) → va_P (dC, dI) vwCl [(m0, .inr (11, oX11 ra x0)), (ra 2, .inl (kI, 8, .inl q_told)), (ra 11, .inl (kI, 1019, .inl q_now))] H → va_D A [(m0, .inr (11, oX11 ra x0)), (ra 2, .inl (kI, 8, .inl q_told)), (ra 11, .inl (kI, 1019, .inl q_now))] → va_S A s.heap H locs → lv_has ls 2 [(0, .ref m0), (1, .int p0)] → W p l e (headSpec wsX11_wasSeen rm_s11_wasSeen).room s m args0 below meth c H locs (0) (0) (MQ below (va_Qi (fun (r : Int32) (_ : Unit) => iv 0 1 r ∧ (r = 0 ∨ iv 0 20 p0)) (fun _ t => va_P (dC, dI) vwCl [(m0, .inr (11, oX11 ra x0)), (ra 2, .inl (kI, 8, .inl q_told)), (ra 11, .inl (kI, 1019, .inl q_now))] t.heap ∧ va_D A [(m0, .inr (11, oX11 ra x0)), (ra 2, .inl (kI, 8, .inl q_told)), (ra 11, .inl (kI, 1019, .inl q_now))]) A) args0 s 0 0 A) (F0 m 24 ls []) := by
    intro H locs ls htp_24 hfp_24 hhm_24 hP hD hS hl
    refine lv_iconst (v := 0) hx hb dX11_wasSeen_24 ic_0 ?_
    have hP9 := hP
    have hD9 := hD
    exact W.zret (v := 0) (ty := .boolean) hx hb hr rfl (fun t ht hW => ⟨⟨0, (), rfl, ⟨(iv_w ivk_0 (by decide) (by decide)), Or.inl rfl⟩, by rw [ht]; exact hP9, hD9⟩, hS.F ht⟩) hS.2.2 dX11_wasSeen_25
  refine lv_aload_n hx hb dX11_wasSeen_0 rfl (lv_at hl 0 rfl) ?_
  refine lv_iload_n hx hb dX11_wasSeen_1 rfl (lv_at hl 1 rfl) ?_
  obtain ⟨hPc, hDc, hFc, hJn⟩ := cl_a (wc := [(m0, .inr (11, oX11 ra x0)), (ra 2, .inl (kI, 8, .inl q_told))]) (wr := [(ra 11, .inl (kI, 1019, .inl q_now))]) hP hD hS hA [0, 1] [2] rfl rfl (by decide +kernel)
  refine va_calli (va_runV (As := [.int p0]) (rest := []) ⟨hx, hb, hml, hown, hts⟩ (s11_isAddress l dC dI kB kI kJ kZ kC kS s.heap.size m0 ra x0 q_told p0 (hX) (hq_told)) (cwV 1 hts gX11_wasSeen_X11_isAddress rfl rfl rfl (by decide +kernel) ⟨Nat.le_of_ble_eq_true rfl, Nat.le_of_ble_eq_true rfl⟩) ⟨fun a U g mk q => by obtain ⟨q0, q1, qP, qE, qD⟩ := q; exact ⟨q0, q1, qP, kE_call qE, qD⟩, va_recv hK hP (ci := 11) (q0 := 0) rfl rfl, fun U hU hW => ⟨rfl, by rw [hU], by rw [hU]; exact hPc, kE_warm hW hE, hDc.weaken (fun _ _ _ _ => trivial)⟩⟩ rfl rfl hl.1 rfl (lv_room (Nat.le_of_ble_eq_true rfl)) dX11_wasSeen_2 ⟨Nat.le_of_ble_eq_true rfl, Nat.le_of_ble_eq_true rfl⟩) hS (fun q _ h => hFc q h) hFc (fun r1 u t H locs ht hvm w2 hB hz1 hk1 hS => ?_)
  obtain ⟨hP1, hD1⟩ := hB
  try dsimp only at w2
  obtain ⟨hPa, hDa⟩ := hJn (w1 := [(m0, .inr (11, oX11 ra x0)), (ra 2, .inl (kI, 8, .inl q_told))]) hk1 ht hP1 hD1
  clear hP hD hPc hDc hFc hJn hP1 hD1 hk1
  have hP : va_P (dC, dI) vwCl [(ra 11, .inl (kI, 1019, .inl q_now)), (m0, .inr (11, oX11 ra x0)), (ra 2, .inl (kI, 8, .inl q_told))] H := hPa
  have hD : va_D A [(ra 11, .inl (kI, 1019, .inl q_now)), (m0, .inr (11, oX11 ra x0)), (ra 2, .inl (kI, 8, .inl q_told))] := hDa
  clear hPa hDa
  refine W.widen (k := 0) (n := 0) (Nat.le_of_ble_eq_true rfl) (Nat.le_of_ble_eq_true rfl) ?_
  refine lv_if_eq (tgt := 24) hx hb dX11_wasSeen_5 rfl (fun c3 => ?_) (fun c3 => ?_)
  · have b4 : iv 0 0 r1 := iv_eqL c3 ivk_0
    have hPD9 := cl_s (wc := [(m0, .inr (11, oX11 ra x0)), (ra 2, .inl (kI, 8, .inl q_told)), (ra 11, .inl (kI, 1019, .inl q_now))]) hP hD [1, 2, 0] rfl (by decide +kernel)
    exact hJ24 _ _ _ ((show x0 1 = x0 1 from rfl)) ((show x0 10 = x0 10 from rfl)) ((show x0 23 = x0 23 from rfl)) (hPD9.1) (hPD9.2) hS (lv_sub hl [0, 1] rfl)
  · have b5 : iv 1 1 r1 := iv_neLo c3 w2.1 ivk_0 (by decide) (by decide)
    have b6 : iv 0 20 p0 := (w2.2).resolve_left (iv_ne b5 ivk_0 (by decide))
    refine lv_aload_n hx hb dX11_wasSeen_8 rfl (lv_at hl 0 rfl) ?_
    obtain ⟨hPc, hDc, hFc, hJn⟩ := cl_a (wc := [(m0, .inr (11, oX11 ra x0)), (ra 2, .inl (kI, 8, .inl q_told)), (ra 11, .inl (kI, 1019, .inl q_now))]) (wr := []) hP hD hS hA [1, 2, 0] [] rfl rfl (by decide +kernel)
    refine va_calli (va_runV (As := []) (rest := []) ⟨hx, hb, hml, hown, hts⟩ (s11_allSeen l dC dI kB kI kJ kZ kC kS H.size m0 ra x0 q_told q_now (hX) (hq_told) (hq_now)) (cwV 0 hts gX11_wasSeen_X11_allSeen rfl rfl rfl (by decide +kernel) ⟨Nat.le_of_ble_eq_true rfl, Nat.le_of_ble_eq_true rfl⟩) ⟨fun a U g mk q => by obtain ⟨q0, q1, qP, qE, qD⟩ := q; exact ⟨q0, q1, qP, kE_call qE, qD⟩, va_recv hK hP (ci := 11) (q0 := 1) rfl rfl, fun U hU hW => ⟨rfl, by rw [hU], by rw [hU]; exact hPc, kE_warm hW hE, hDc.weaken (fun _ _ _ _ => trivial)⟩⟩ rfl rfl hl.1 rfl (lv_room (Nat.le_of_ble_eq_true rfl)) dX11_wasSeen_9 ⟨Nat.le_of_ble_eq_true rfl, Nat.le_of_ble_eq_true rfl⟩) hS (fun q _ h => hFc q h) hFc (fun r7 u t H locs ht hvm w8 hB hz1 hk1 hS => ?_)
    obtain ⟨hP1, hD1⟩ := hB
    try dsimp only at w8
    obtain ⟨hPa, hDa⟩ := hJn (w1 := [(m0, .inr (11, oX11 ra x0)), (ra 2, .inl (kI, 8, .inl q_told)), (ra 11, .inl (kI, 1019, .inl q_now))]) hk1 ht hP1 hD1
    clear hP hD hPc hDc hFc hJn hP1 hD1 hk1
    have hP : va_P (dC, dI) vwCl [(m0, .inr (11, oX11 ra x0)), (ra 2, .inl (kI, 8, .inl q_told)), (ra 11, .inl (kI, 1019, .inl q_now))] H := hPa
    have hD : va_D A [(m0, .inr (11, oX11 ra x0)), (ra 2, .inl (kI, 8, .inl q_told)), (ra 11, .inl (kI, 1019, .inl q_now))] := hDa
    clear hPa hDa
    refine W.widen (k := 0) (n := 0) (Nat.le_of_ble_eq_true rfl) (Nat.le_of_ble_eq_true rfl) ?_
    refine lv_iload_n hx hb dX11_wasSeen_12 rfl (lv_at hl 1 rfl) ?_
    refine lv_ishr hx hb dX11_wasSeen_13 ?_
    refine lv_topi (fun z9 _ => ?_)
    refine lv_iconst (v := 1) hx hb dX11_wasSeen_14 ic_1 ?_
    refine lv_iand hx hb dX11_wasSeen_15 ?_
    refine iv_top (a := 0) (b := 1) (iv_and (m := 1) (by decide) (by decide) (by decide)) (fun z10 b11 => ?_)
    refine lv_iconst (v := 1) hx hb dX11_wasSeen_16 ic_1 ?_
    refine lv_icmp_ne (tgt := 24) hx hb dX11_wasSeen_17 rfl (fun c12 => ?_) (fun c12 => ?_)
    · have b13 : iv 0 0 z10 := iv_neHi c12 b11 ivk_1 (by decide) (by decide)
      exact hJ24 _ _ _ ((show x0 1 = x0 1 from rfl)) ((show x0 10 = x0 10 from rfl)) ((show x0 23 = x0 23 from rfl)) (hP) (hD) hS (lv_sub hl [0, 1] rfl)
    · have b14 : iv 1 1 z10 := iv_eqL c12 ivk_1
      refine lv_iconst (v := 1) hx hb dX11_wasSeen_20 ic_1 ?_
      refine lv_goto (tgt := 25) hx hb dX11_wasSeen_21 rfl ?_
      have hP9 := hP
      have hD9 := hD
      exact W.zret (v := 1) (ty := .boolean) hx hb hr rfl (fun t ht hW => ⟨⟨1, (), rfl, ⟨(iv_w ivk_1 (by decide) (by decide)), Or.inr (b6)⟩, by rw [ht]; exact hP9, hD9⟩, hS.F ht⟩) hS.2.2 dX11_wasSeen_25
def rm_s11_feed : Room := { frames := 0, cells := 0, slots := 0, locals := 0 }
set_option maxHeartbeats 4000000 in
set_option maxRecDepth 100000 in
theorem s11_feed (l : Launch) (dC : Nat → ClassId) (dI : Nat → Nat → Nat) (kB kI kJ kZ kC kS : ClassId) (sz : Nat) (m0 : Nat) (ra : Nat → Nat) (x0 : Nat → Int32) (q_tape : Nat → Int32) (p0 : Int32) (p1 : Int32) (p2 : Int32) (p3 : Int32) (p4 : Int32) (hX : fI lX11 hX11 x0) (hq_tape : fI (fun _ => 0) (fun _ => 255) q_tape) : Met l yX11_feed wsX11_feed rm_s11_feed (va_Pc [.ref m0, .int p0, .int p1, .int p2, .int p3, .int p4] (fun U => U.heap.size = sz ∧ va_P (dC, dI) vwCl [(m0, .inr (11, oX11 ra x0)), (ra 13, .inl (kI, 700, .inl q_tape))] U.heap ∧ kE dC dI kB kI kJ kZ kC kS U ∧ va_D (fun _ => True) [(m0, .inr (11, oX11 ra x0)), (ra 13, .inl (kI, 700, .inl q_tape))])) (va_Qi (fun (r : Int32) (_ : Unit) => iv (-1) 700 r) (fun _ t => ∃ (x0' : Nat → Int32) (q_tape' : Nat → Int32), fI lX11 hX11 x0' ∧ fI (fun _ => 0) (fun _ => 255) q_tape' ∧ (x0' 10 = x0 10) ∧ (x0' 23 = x0 23) ∧ va_P (dC, dI) vwCl [(m0, .inr (11, oX11 ra x0')), (ra 13, .inl (kI, 700, .inl q_tape'))] t.heap ∧ va_D (va_A [(m0, .inr (11, oX11 ra x0)), (ra 13, .inl (kI, 700, .inl q_tape))] sz) [(m0, .inr (11, oX11 ra x0')), (ra 13, .inl (kI, 700, .inl q_tape'))]) (va_A [(m0, .inr (11, oX11 ra x0)), (ra 13, .inl (kI, 700, .inl q_tape))] sz)) 0 0 (va_A [(m0, .inr (11, oX11 ra x0)), (ra 13, .inl (kI, 700, .inl q_tape))] sz) := by
  refine Met.ofW (cc := cX11_feed) (maxL := 8) (ret := (some .int)) (by decide) rfl ?_
  intro p e s m args0 below meth c s₁ B hml hv
  obtain ⟨hargs, hsz, hP, hE, hD0⟩ := hv
  have hx := B.exec
  have hb := B.bytes
  have hr := B.returns
  have hts := atoms_spec (ws := wsX11_feed) B.pre
  have hown : s.vm.findClass RX11 = some m.cls := findClass_of_methodNamed B.named
  have hlocks := B.notSynchronized
  have hK := hE.1
  have hin11 : ∀ w ∈ wsX110, w ∈ wsX11_feed := fun _ h9 => List.mem_cons_of_mem _ (List.mem_append_right _ h9)
  have hw_0 := hts (.fieldLink RX11 145 "PathProberModel" "taped" "I") (List.mem_of_getElem? (i := 2) rfl)
  have hw_1 := hts (.fieldLink RX11 66 "PathProberModel" "tape" "[I") (List.mem_of_getElem? (i := 3) rfl)
  have hw_2 := hts (.fieldLink RX11 142 "PathProberModel" "code" "I") (List.mem_of_getElem? (i := 1) rfl)
  subst hsz
  have hD := hD0.self (sz := s.heap.size)
  generalize hAe : va_A [(m0, .inr (11, oX11 ra x0)), (ra 13, .inl (kI, 700, .inl q_tape))] s.heap.size = A at hD ⊢
  have hA : ∀ q : Nat, s.heap.size ≤ q → A q := fun q h => by rw [← hAe]; exact Or.inr h
  have hS : va_S A s.heap s.heap [] := va_S.rf
  have hP : va_P (dC, dI) vwCl [(m0, .inr (11, oX11 ra x0)), (ra 13, .inl (kI, 700, .inl q_tape))] s.heap := hP
  have hl := lv_entry ([.ref m0, .int p0, .int p1, .int p2, .int p3, .int p4]) (n := 8) (Nat.le_of_ble_eq_true rfl)
  have hla : entryFrame m args0 8 = entryFrame m ([.ref m0, .int p0, .int p1, .int p2, .int p3, .int p4] : List Value).toArray 8 := by rw [hargs]
  rw [hla, lg_entry_eq]
  generalize (lg_sl ([.ref m0, .int p0, .int p1, .int p2, .int p3, .int p4]) ++ List.replicate (8 - (lg_sl ([.ref m0, .int p0, .int p1, .int p2, .int p3, .int p4])).length) Slot.unset).toArray = ls at hl ⊢
  have hl : lv_has ls 8 [(0, .ref m0), (1, .int p0), (2, .int p1), (3, .int p2), (4, .int p3), (5, .int p4)] := hl
  have hJ23 : ∀ (n : Nat) (y23_0 : Nat → Int32) (g23_1 : Nat → Int32) (v23_loc6 : Int32) (H : Heap) (locs : List Loc) (ls : Array Slot), (20 - v23_loc6.toInt).toNat < n → fI lX11 hX11 y23_0 → fI (fun _ => 0) (fun _ => 255) g23_1 → iv 0 20 v23_loc6 → iv 0 0 (y23_0 0) → iv 20 700 ((x0 1) + 20) → ((y23_0 1).toInt = (x0 1).toInt + v23_loc6.toInt) → ((x0 1).toInt + 20 ≤ 700) → (y23_0 10 = x0 10) → (y23_0 23 = x0 23) → va_P (dC, dI) vwCl [(m0, .inr (11, oX11 ra y23_0)), (ra 13, .inl (kI, 700, .inl g23_1))] H → va_D A [(m0, .inr (11, oX11 ra y23_0)), (ra 13, .inl (kI, 700, .inl g23_1))] → va_S A s.heap H locs → lv_has ls 8 [(0, .ref m0), (1, .int p0), (2, .int p1), (3, .int p2), (4, .int p3), (5, .int p4), (6, .int v23_loc6)] → W p l e (headSpec wsX11_feed rm_s11_feed).room s m args0 below meth c H locs (0) (0) (MQ below (va_Qi (fun (r : Int32) (_ : Unit) => iv (-1) 700 r) (fun _ t => ∃ (x0' : Nat → Int32) (q_tape' : Nat → Int32), fI lX11 hX11 x0' ∧ fI (fun _ => 0) (fun _ => 255) q_tape' ∧ (x0' 10 = x0 10) ∧ (x0' 23 = x0 23) ∧ va_P (dC, dI) vwCl [(m0, .inr (11, oX11 ra x0')), (ra 13, .inl (kI, 700, .inl q_tape'))] t.heap ∧ va_D A [(m0, .inr (11, oX11 ra x0')), (ra 13, .inl (kI, 700, .inl q_tape'))]) A) args0 s 0 0 A) (F0 m 23 ls []) := by
    intro n
    induction n with
    | zero => intro y23_0 g23_1 v23_loc6 H locs ls hm23; exact absurd hm23 (Nat.not_lt_zero _)
    | succ n ih23 =>
      intro y23_0 g23_1 v23_loc6 H locs ls hm23 hI23_0 hI23_1 h23_3 h23_4 h23_5 hfd_23 hro_23 hfp_23 hhm_23 hP hD hS hl
      refine lv_iload hx hb dX11_feed_23 (lv_at hl 6 rfl) ?_
      refine lv_bipush (v := 20) hx hb dX11_feed_25 bp_20 ?_
      refine lv_icmp_ge (tgt := 120) hx hb dX11_feed_27 rfl (fun c1 => ?_) (fun c1 => ?_)
      · have b2 : iv 20 20 v23_loc6 := iv_leR c1 ivk_20 h23_3 (by decide) (by decide)
        refine lv_aload_n hx hb dX11_feed_120 rfl (lv_at hl 0 rfl) ?_
        refine va_get (D := (dC, dI)) (ci := 11) (v := .int (y23_0 1)) (C := RX11) (T := TX11) (N := 61) hx hb hts hin11 hown hK hP 0 rfl rfl 15 (Nat.le_of_ble_eq_true rfl) hw_0 (fun _ h9 => h9) rfl dX11_feed_121 ?_
        have hP9 := hP
        have hD9 := hD
        exact W.iret (v := y23_0 1) hx hb hr (fun t ht hW => ⟨⟨y23_0 1, (), rfl, (iv_w (hI23_0 1 : iv 0 700 (y23_0 1)) (by decide) (by decide)), y23_0, g23_1, hI23_0, hI23_1, (show y23_0 10 = x0 10 from hfp_23), (show y23_0 23 = x0 23 from hhm_23), by rw [ht]; exact hP9, hD9⟩, hS.F ht⟩) hS.2.2 dX11_feed_124
      · have b3 : iv 0 19 v23_loc6 := iv_ltL (Int32.not_le.mp c1) h23_3 ivk_20 (by decide) (by decide)
        refine lv_iload hx hb dX11_feed_30 (lv_at hl 6 rfl) ?_
        refine lv_iconst (v := 4) hx hb dX11_feed_32 ic_4 ?_
        refine lv_icmp_ge (tgt := 40) hx hb dX11_feed_33 rfl (fun c4 => ?_) (fun c4 => ?_)
        · have b5 : iv 4 19 v23_loc6 := iv_leR c4 ivk_4 b3 (by decide) (by decide)
          refine lv_iload hx hb dX11_feed_40 (lv_at hl 6 rfl) ?_
          refine lv_bipush (v := 8) hx hb dX11_feed_42 bp_8 ?_
          refine lv_icmp_ge (tgt := 51) hx hb dX11_feed_44 rfl (fun c6 => ?_) (fun c6 => ?_)
          · have b7 : iv 8 19 v23_loc6 := iv_leR c6 ivk_8 b5 (by decide) (by decide)
            refine lv_iload hx hb dX11_feed_51 (lv_at hl 6 rfl) ?_
            refine lv_bipush (v := 12) hx hb dX11_feed_53 bp_12 ?_
            refine lv_icmp_ge (tgt := 62) hx hb dX11_feed_55 rfl (fun c8 => ?_) (fun c8 => ?_)
            · have b9 : iv 12 19 v23_loc6 := iv_leR c8 ivk_12 b7 (by decide) (by decide)
              refine lv_iload hx hb dX11_feed_62 (lv_at hl 6 rfl) ?_
              refine lv_bipush (v := 16) hx hb dX11_feed_64 bp_16 ?_
              refine lv_icmp_ge (tgt := 74) hx hb dX11_feed_66 rfl (fun c10 => ?_) (fun c10 => ?_)
              · have b11 : iv 16 19 v23_loc6 := iv_leR c10 ivk_16 b9 (by decide) (by decide)
                refine lv_iload hx hb dX11_feed_74 (lv_at hl 5 rfl) ?_
                refine lv_istore (lv' := [(7, .int p4), (0, .ref m0), (1, .int p0), (2, .int p1), (3, .int p2), (4, .int p3), (5, .int p4), (6, .int v23_loc6)]) hx hb dX11_feed_76 hl (Nat.le_of_ble_eq_true rfl) rfl (fun ls hl => ?_)
                have b12 : iv 0 699 (y23_0 1) := feed_699 hfd_23 hro_23 (hI23_0 1 : iv 0 700 (y23_0 1)) (iv_w b11 (by decide) (by decide))
                refine lv_aload_n hx hb dX11_feed_78 rfl (lv_at hl 1 rfl) ?_
                refine va_get (D := (dC, dI)) (ci := 11) (v := .ref (ra 13)) (C := RX11) (T := TX11) (N := 61) hx hb hts hin11 hown hK hP 0 rfl rfl 14 (Nat.le_of_ble_eq_true rfl) hw_1 (fun _ h9 => h9) rfl dX11_feed_79 ?_
                refine lv_aload_n hx hb dX11_feed_82 rfl (lv_at hl 1 rfl) ?_
                refine va_get (D := (dC, dI)) (ci := 11) (v := .int (y23_0 1)) (C := RX11) (T := TX11) (N := 61) hx hb hts hin11 hown hK hP 0 rfl rfl 15 (Nat.le_of_ble_eq_true rfl) hw_0 (fun _ h9 => h9) rfl dX11_feed_83 ?_
                refine lv_iload hx hb dX11_feed_86 (lv_at hl 0 rfl) ?_
                refine lv_bipush (v := 24) hx hb dX11_feed_88 bp_24 ?_
                refine lv_bipush (v := 8) hx hb dX11_feed_90 bp_8 ?_
                refine lv_iload hx hb dX11_feed_92 (lv_at hl 7 rfl) ?_
                refine lv_iconst (v := 4) hx hb dX11_feed_94 ic_4 ?_
                refine lv_irem hx hb dX11_feed_95 (by decide) ?_
                refine iv_top (a := 0) (b := 3) (iv_rem b11 ivk_4 (by decide) (by decide) (by decide) (by decide)) (fun z13 b14 => ?_)
                refine lv_imul hx hb dX11_feed_96 ?_
                refine iv_top (a := 0) (b := 24) (iv_mul ivk_8 b14 (by decide) (by decide) (by decide) (by decide) (by decide)) (fun z15 b16 => ?_)
                refine lv_isub hx hb dX11_feed_97 ?_
                refine iv_top (a := 0) (b := 24) (iv_sub ivk_24 b16 (by decide) (by decide) (by decide) (by decide)) (fun z17 b18 => ?_)
                refine lv_ishr hx hb dX11_feed_98 ?_
                refine lv_topi (fun z19 _ => ?_)
                refine lv_sipush (v := 255) hx hb dX11_feed_99 (by decide) ?_
                refine lv_iand hx hb dX11_feed_102 ?_
                refine iv_top (a := 0) (b := 255) (iv_and (m := 255) (by decide) (by decide) (by decide)) (fun z20 b21 => ?_)
                refine va_iast hx hb hK hP hD hS 1 1 rfl rfl (iv_in b12 (by decide) (by decide)) dX11_feed_103 (fun H locs hPa hDa hS => ?_)
                clear hP hD
                have hP : va_P (dC, dI) vwCl [(m0, .inr (11, oX11 ra y23_0)), (ra 13, .inl (kI, 700, .inl (upd g23_1 (y23_0 1).toNatClampNeg z20)))] H := hPa
                have hD : va_D A [(m0, .inr (11, oX11 ra y23_0)), (ra 13, .inl (kI, 700, .inl (upd g23_1 (y23_0 1).toNatClampNeg z20)))] := hDa
                clear hPa hDa
                have hf23 : fI (fun _ => 0) (fun _ => 255) (upd g23_1 (y23_0 1).toNatClampNeg z20) := fI_u hI23_1 (k := (y23_0 1).toNatClampNeg) (b21)
                generalize (upd g23_1 (y23_0 1).toNatClampNeg z20) = f22 at hP hD hf23
                refine lv_aload_n hx hb dX11_feed_104 rfl (lv_at hl 1 rfl) ?_
                refine lv_dup hx hb dX11_feed_105 rfl ?_
                refine va_get (D := (dC, dI)) (ci := 11) (v := .int (y23_0 1)) (C := RX11) (T := TX11) (N := 61) hx hb hts hin11 hown hK hP 0 rfl rfl 15 (Nat.le_of_ble_eq_true rfl) hw_0 (fun _ h9 => h9) rfl dX11_feed_106 ?_
                refine lv_iconst (v := 1) hx hb dX11_feed_109 ic_1 ?_
                refine lv_iadd hx hb dX11_feed_110 ?_
                have b24 : iv 1 700 ((y23_0 1) + 1) := iv_add b12 ivk_1 (by decide) (by decide) (by decide) (by decide)
                have t25 : ((y23_0 1) + 1).toInt = (y23_0 1).toInt + 1 := iv_addc b12 (by decide) (by decide) (by decide)
                refine va_put (D := (dC, dI)) (ci := 11) (v := .int ((y23_0 1) + 1)) (ty := .int) (C := RX11) (T := TX11) (N := 61) hx hb hts hin11 tyX11 tyX11_ok nmX11 hown hK hP hD hS 0 rfl rfl 15 (by decide) hw_0 (fun _ h9 => h9) rfl (by decide +kernel) rfl rfl (Nat.le_of_ble_eq_true rfl) dX11_feed_111 (fun H locs hPa hDa hS => ?_)
                clear hP hD
                have hP : va_P (dC, dI) vwCl [(m0, .inr (11, oX11 ra (upd y23_0 1 ((y23_0 1) + 1)))), (ra 13, .inl (kI, 700, .inl f22))] H := hPa
                have hD : va_D A [(m0, .inr (11, oX11 ra (upd y23_0 1 ((y23_0 1) + 1)))), (ra 13, .inl (kI, 700, .inl f22))] := hDa
                clear hPa hDa
                refine lv_iinc (v := v23_loc6 + Int32.ofInt 1) (lv' := [(6, .int (v23_loc6 + Int32.ofInt 1)), (7, .int p4), (0, .ref m0), (1, .int p0), (2, .int p1), (3, .int p2), (4, .int p3), (5, .int p4)]) hx hb dX11_feed_114 hl (k := 7) rfl (rfl) (Nat.le_of_ble_eq_true rfl) rfl (fun ls hl => ?_)
                have b26 : iv 17 20 (v23_loc6 + Int32.ofInt 1) := iv_add b11 ivo_1 (by decide) (by decide) (by decide) (by decide)
                have t27 : (v23_loc6 + Int32.ofInt 1).toInt = v23_loc6.toInt + 1 := iv_inc 1 b11 (by decide) (by decide) (by decide) (by decide)
                refine lv_goto (tgt := 23) hx hb dX11_feed_117 rfl ?_
                exact ih23 (upd y23_0 1 ((y23_0 1) + 1)) f22 (v23_loc6 + Int32.ofInt 1) _ _ _ (ms_up (c := 1) (d := 0) b11 hm23 (by decide) (iv_inc 1 b11 (by decide) (by decide) (by decide) (by decide)) (by decide) rfl) ((fI_u hI23_0 (k := 1) ((iv_w b24 (by decide) (by decide))))) (hf23) ((iv_w b26 (by decide) (by decide))) (h23_4) (h23_5) ((show ((y23_0 1) + 1).toInt = (x0 1).toInt + (v23_loc6 + Int32.ofInt 1).toInt from by have q5 := hfd_23; omega)) ((show (x0 1).toInt + 20 ≤ 700 from hro_23)) ((show y23_0 10 = x0 10 from hfp_23)) ((show y23_0 23 = x0 23 from hhm_23)) (hP) (hD) hS (lv_sub hl [2, 3, 4, 5, 6, 7, 0] rfl)
              · have b28 : iv 12 15 v23_loc6 := iv_ltL (Int32.not_le.mp c10) b9 ivk_16 (by decide) (by decide)
                refine lv_iload hx hb dX11_feed_69 (lv_at hl 4 rfl) ?_
                refine lv_goto (tgt := 76) hx hb dX11_feed_71 rfl ?_
                refine lv_istore (lv' := [(7, .int p3), (0, .ref m0), (1, .int p0), (2, .int p1), (3, .int p2), (4, .int p3), (5, .int p4), (6, .int v23_loc6)]) hx hb dX11_feed_76 hl (Nat.le_of_ble_eq_true rfl) rfl (fun ls hl => ?_)
                have b29 : iv 0 699 (y23_0 1) := feed_699 hfd_23 hro_23 (hI23_0 1 : iv 0 700 (y23_0 1)) (iv_w b28 (by decide) (by decide))
                refine lv_aload_n hx hb dX11_feed_78 rfl (lv_at hl 1 rfl) ?_
                refine va_get (D := (dC, dI)) (ci := 11) (v := .ref (ra 13)) (C := RX11) (T := TX11) (N := 61) hx hb hts hin11 hown hK hP 0 rfl rfl 14 (Nat.le_of_ble_eq_true rfl) hw_1 (fun _ h9 => h9) rfl dX11_feed_79 ?_
                refine lv_aload_n hx hb dX11_feed_82 rfl (lv_at hl 1 rfl) ?_
                refine va_get (D := (dC, dI)) (ci := 11) (v := .int (y23_0 1)) (C := RX11) (T := TX11) (N := 61) hx hb hts hin11 hown hK hP 0 rfl rfl 15 (Nat.le_of_ble_eq_true rfl) hw_0 (fun _ h9 => h9) rfl dX11_feed_83 ?_
                refine lv_iload hx hb dX11_feed_86 (lv_at hl 0 rfl) ?_
                refine lv_bipush (v := 24) hx hb dX11_feed_88 bp_24 ?_
                refine lv_bipush (v := 8) hx hb dX11_feed_90 bp_8 ?_
                refine lv_iload hx hb dX11_feed_92 (lv_at hl 7 rfl) ?_
                refine lv_iconst (v := 4) hx hb dX11_feed_94 ic_4 ?_
                refine lv_irem hx hb dX11_feed_95 (by decide) ?_
                refine iv_top (a := 0) (b := 3) (iv_rem b28 ivk_4 (by decide) (by decide) (by decide) (by decide)) (fun z30 b31 => ?_)
                refine lv_imul hx hb dX11_feed_96 ?_
                refine iv_top (a := 0) (b := 24) (iv_mul ivk_8 b31 (by decide) (by decide) (by decide) (by decide) (by decide)) (fun z32 b33 => ?_)
                refine lv_isub hx hb dX11_feed_97 ?_
                refine iv_top (a := 0) (b := 24) (iv_sub ivk_24 b33 (by decide) (by decide) (by decide) (by decide)) (fun z34 b35 => ?_)
                refine lv_ishr hx hb dX11_feed_98 ?_
                refine lv_topi (fun z36 _ => ?_)
                refine lv_sipush (v := 255) hx hb dX11_feed_99 (by decide) ?_
                refine lv_iand hx hb dX11_feed_102 ?_
                refine iv_top (a := 0) (b := 255) (iv_and (m := 255) (by decide) (by decide) (by decide)) (fun z37 b38 => ?_)
                refine va_iast hx hb hK hP hD hS 1 1 rfl rfl (iv_in b29 (by decide) (by decide)) dX11_feed_103 (fun H locs hPa hDa hS => ?_)
                clear hP hD
                have hP : va_P (dC, dI) vwCl [(m0, .inr (11, oX11 ra y23_0)), (ra 13, .inl (kI, 700, .inl (upd g23_1 (y23_0 1).toNatClampNeg z37)))] H := hPa
                have hD : va_D A [(m0, .inr (11, oX11 ra y23_0)), (ra 13, .inl (kI, 700, .inl (upd g23_1 (y23_0 1).toNatClampNeg z37)))] := hDa
                clear hPa hDa
                have hf40 : fI (fun _ => 0) (fun _ => 255) (upd g23_1 (y23_0 1).toNatClampNeg z37) := fI_u hI23_1 (k := (y23_0 1).toNatClampNeg) (b38)
                generalize (upd g23_1 (y23_0 1).toNatClampNeg z37) = f39 at hP hD hf40
                refine lv_aload_n hx hb dX11_feed_104 rfl (lv_at hl 1 rfl) ?_
                refine lv_dup hx hb dX11_feed_105 rfl ?_
                refine va_get (D := (dC, dI)) (ci := 11) (v := .int (y23_0 1)) (C := RX11) (T := TX11) (N := 61) hx hb hts hin11 hown hK hP 0 rfl rfl 15 (Nat.le_of_ble_eq_true rfl) hw_0 (fun _ h9 => h9) rfl dX11_feed_106 ?_
                refine lv_iconst (v := 1) hx hb dX11_feed_109 ic_1 ?_
                refine lv_iadd hx hb dX11_feed_110 ?_
                have b41 : iv 1 700 ((y23_0 1) + 1) := iv_add b29 ivk_1 (by decide) (by decide) (by decide) (by decide)
                have t42 : ((y23_0 1) + 1).toInt = (y23_0 1).toInt + 1 := iv_addc b29 (by decide) (by decide) (by decide)
                refine va_put (D := (dC, dI)) (ci := 11) (v := .int ((y23_0 1) + 1)) (ty := .int) (C := RX11) (T := TX11) (N := 61) hx hb hts hin11 tyX11 tyX11_ok nmX11 hown hK hP hD hS 0 rfl rfl 15 (by decide) hw_0 (fun _ h9 => h9) rfl (by decide +kernel) rfl rfl (Nat.le_of_ble_eq_true rfl) dX11_feed_111 (fun H locs hPa hDa hS => ?_)
                clear hP hD
                have hP : va_P (dC, dI) vwCl [(m0, .inr (11, oX11 ra (upd y23_0 1 ((y23_0 1) + 1)))), (ra 13, .inl (kI, 700, .inl f39))] H := hPa
                have hD : va_D A [(m0, .inr (11, oX11 ra (upd y23_0 1 ((y23_0 1) + 1)))), (ra 13, .inl (kI, 700, .inl f39))] := hDa
                clear hPa hDa
                refine lv_iinc (v := v23_loc6 + Int32.ofInt 1) (lv' := [(6, .int (v23_loc6 + Int32.ofInt 1)), (7, .int p3), (0, .ref m0), (1, .int p0), (2, .int p1), (3, .int p2), (4, .int p3), (5, .int p4)]) hx hb dX11_feed_114 hl (k := 7) rfl (rfl) (Nat.le_of_ble_eq_true rfl) rfl (fun ls hl => ?_)
                have b43 : iv 13 16 (v23_loc6 + Int32.ofInt 1) := iv_add b28 ivo_1 (by decide) (by decide) (by decide) (by decide)
                have t44 : (v23_loc6 + Int32.ofInt 1).toInt = v23_loc6.toInt + 1 := iv_inc 1 b28 (by decide) (by decide) (by decide) (by decide)
                refine lv_goto (tgt := 23) hx hb dX11_feed_117 rfl ?_
                exact ih23 (upd y23_0 1 ((y23_0 1) + 1)) f39 (v23_loc6 + Int32.ofInt 1) _ _ _ (ms_up (c := 1) (d := 0) b28 hm23 (by decide) (iv_inc 1 b28 (by decide) (by decide) (by decide) (by decide)) (by decide) rfl) ((fI_u hI23_0 (k := 1) ((iv_w b41 (by decide) (by decide))))) (hf40) ((iv_w b43 (by decide) (by decide))) (h23_4) (h23_5) ((show ((y23_0 1) + 1).toInt = (x0 1).toInt + (v23_loc6 + Int32.ofInt 1).toInt from by have q5 := hfd_23; omega)) ((show (x0 1).toInt + 20 ≤ 700 from hro_23)) ((show y23_0 10 = x0 10 from hfp_23)) ((show y23_0 23 = x0 23 from hhm_23)) (hP) (hD) hS (lv_sub hl [2, 3, 4, 5, 6, 7, 0] rfl)
            · have b45 : iv 8 11 v23_loc6 := iv_ltL (Int32.not_le.mp c8) b7 ivk_12 (by decide) (by decide)
              refine lv_iload_n hx hb dX11_feed_58 rfl (lv_at hl 3 rfl) ?_
              refine lv_goto (tgt := 76) hx hb dX11_feed_59 rfl ?_
              refine lv_istore (lv' := [(7, .int p2), (0, .ref m0), (1, .int p0), (2, .int p1), (3, .int p2), (4, .int p3), (5, .int p4), (6, .int v23_loc6)]) hx hb dX11_feed_76 hl (Nat.le_of_ble_eq_true rfl) rfl (fun ls hl => ?_)
              have b46 : iv 0 699 (y23_0 1) := feed_699 hfd_23 hro_23 (hI23_0 1 : iv 0 700 (y23_0 1)) (iv_w b45 (by decide) (by decide))
              refine lv_aload_n hx hb dX11_feed_78 rfl (lv_at hl 1 rfl) ?_
              refine va_get (D := (dC, dI)) (ci := 11) (v := .ref (ra 13)) (C := RX11) (T := TX11) (N := 61) hx hb hts hin11 hown hK hP 0 rfl rfl 14 (Nat.le_of_ble_eq_true rfl) hw_1 (fun _ h9 => h9) rfl dX11_feed_79 ?_
              refine lv_aload_n hx hb dX11_feed_82 rfl (lv_at hl 1 rfl) ?_
              refine va_get (D := (dC, dI)) (ci := 11) (v := .int (y23_0 1)) (C := RX11) (T := TX11) (N := 61) hx hb hts hin11 hown hK hP 0 rfl rfl 15 (Nat.le_of_ble_eq_true rfl) hw_0 (fun _ h9 => h9) rfl dX11_feed_83 ?_
              refine lv_iload hx hb dX11_feed_86 (lv_at hl 0 rfl) ?_
              refine lv_bipush (v := 24) hx hb dX11_feed_88 bp_24 ?_
              refine lv_bipush (v := 8) hx hb dX11_feed_90 bp_8 ?_
              refine lv_iload hx hb dX11_feed_92 (lv_at hl 7 rfl) ?_
              refine lv_iconst (v := 4) hx hb dX11_feed_94 ic_4 ?_
              refine lv_irem hx hb dX11_feed_95 (by decide) ?_
              refine iv_top (a := 0) (b := 3) (iv_rem b45 ivk_4 (by decide) (by decide) (by decide) (by decide)) (fun z47 b48 => ?_)
              refine lv_imul hx hb dX11_feed_96 ?_
              refine iv_top (a := 0) (b := 24) (iv_mul ivk_8 b48 (by decide) (by decide) (by decide) (by decide) (by decide)) (fun z49 b50 => ?_)
              refine lv_isub hx hb dX11_feed_97 ?_
              refine iv_top (a := 0) (b := 24) (iv_sub ivk_24 b50 (by decide) (by decide) (by decide) (by decide)) (fun z51 b52 => ?_)
              refine lv_ishr hx hb dX11_feed_98 ?_
              refine lv_topi (fun z53 _ => ?_)
              refine lv_sipush (v := 255) hx hb dX11_feed_99 (by decide) ?_
              refine lv_iand hx hb dX11_feed_102 ?_
              refine iv_top (a := 0) (b := 255) (iv_and (m := 255) (by decide) (by decide) (by decide)) (fun z54 b55 => ?_)
              refine va_iast hx hb hK hP hD hS 1 1 rfl rfl (iv_in b46 (by decide) (by decide)) dX11_feed_103 (fun H locs hPa hDa hS => ?_)
              clear hP hD
              have hP : va_P (dC, dI) vwCl [(m0, .inr (11, oX11 ra y23_0)), (ra 13, .inl (kI, 700, .inl (upd g23_1 (y23_0 1).toNatClampNeg z54)))] H := hPa
              have hD : va_D A [(m0, .inr (11, oX11 ra y23_0)), (ra 13, .inl (kI, 700, .inl (upd g23_1 (y23_0 1).toNatClampNeg z54)))] := hDa
              clear hPa hDa
              have hf57 : fI (fun _ => 0) (fun _ => 255) (upd g23_1 (y23_0 1).toNatClampNeg z54) := fI_u hI23_1 (k := (y23_0 1).toNatClampNeg) (b55)
              generalize (upd g23_1 (y23_0 1).toNatClampNeg z54) = f56 at hP hD hf57
              refine lv_aload_n hx hb dX11_feed_104 rfl (lv_at hl 1 rfl) ?_
              refine lv_dup hx hb dX11_feed_105 rfl ?_
              refine va_get (D := (dC, dI)) (ci := 11) (v := .int (y23_0 1)) (C := RX11) (T := TX11) (N := 61) hx hb hts hin11 hown hK hP 0 rfl rfl 15 (Nat.le_of_ble_eq_true rfl) hw_0 (fun _ h9 => h9) rfl dX11_feed_106 ?_
              refine lv_iconst (v := 1) hx hb dX11_feed_109 ic_1 ?_
              refine lv_iadd hx hb dX11_feed_110 ?_
              have b58 : iv 1 700 ((y23_0 1) + 1) := iv_add b46 ivk_1 (by decide) (by decide) (by decide) (by decide)
              have t59 : ((y23_0 1) + 1).toInt = (y23_0 1).toInt + 1 := iv_addc b46 (by decide) (by decide) (by decide)
              refine va_put (D := (dC, dI)) (ci := 11) (v := .int ((y23_0 1) + 1)) (ty := .int) (C := RX11) (T := TX11) (N := 61) hx hb hts hin11 tyX11 tyX11_ok nmX11 hown hK hP hD hS 0 rfl rfl 15 (by decide) hw_0 (fun _ h9 => h9) rfl (by decide +kernel) rfl rfl (Nat.le_of_ble_eq_true rfl) dX11_feed_111 (fun H locs hPa hDa hS => ?_)
              clear hP hD
              have hP : va_P (dC, dI) vwCl [(m0, .inr (11, oX11 ra (upd y23_0 1 ((y23_0 1) + 1)))), (ra 13, .inl (kI, 700, .inl f56))] H := hPa
              have hD : va_D A [(m0, .inr (11, oX11 ra (upd y23_0 1 ((y23_0 1) + 1)))), (ra 13, .inl (kI, 700, .inl f56))] := hDa
              clear hPa hDa
              refine lv_iinc (v := v23_loc6 + Int32.ofInt 1) (lv' := [(6, .int (v23_loc6 + Int32.ofInt 1)), (7, .int p2), (0, .ref m0), (1, .int p0), (2, .int p1), (3, .int p2), (4, .int p3), (5, .int p4)]) hx hb dX11_feed_114 hl (k := 7) rfl (rfl) (Nat.le_of_ble_eq_true rfl) rfl (fun ls hl => ?_)
              have b60 : iv 9 12 (v23_loc6 + Int32.ofInt 1) := iv_add b45 ivo_1 (by decide) (by decide) (by decide) (by decide)
              have t61 : (v23_loc6 + Int32.ofInt 1).toInt = v23_loc6.toInt + 1 := iv_inc 1 b45 (by decide) (by decide) (by decide) (by decide)
              refine lv_goto (tgt := 23) hx hb dX11_feed_117 rfl ?_
              exact ih23 (upd y23_0 1 ((y23_0 1) + 1)) f56 (v23_loc6 + Int32.ofInt 1) _ _ _ (ms_up (c := 1) (d := 0) b45 hm23 (by decide) (iv_inc 1 b45 (by decide) (by decide) (by decide) (by decide)) (by decide) rfl) ((fI_u hI23_0 (k := 1) ((iv_w b58 (by decide) (by decide))))) (hf57) ((iv_w b60 (by decide) (by decide))) (h23_4) (h23_5) ((show ((y23_0 1) + 1).toInt = (x0 1).toInt + (v23_loc6 + Int32.ofInt 1).toInt from by have q5 := hfd_23; omega)) ((show (x0 1).toInt + 20 ≤ 700 from hro_23)) ((show y23_0 10 = x0 10 from hfp_23)) ((show y23_0 23 = x0 23 from hhm_23)) (hP) (hD) hS (lv_sub hl [2, 3, 4, 5, 6, 7, 0] rfl)
          · have b62 : iv 4 7 v23_loc6 := iv_ltL (Int32.not_le.mp c6) b5 ivk_8 (by decide) (by decide)
            refine lv_iload_n hx hb dX11_feed_47 rfl (lv_at hl 2 rfl) ?_
            refine lv_goto (tgt := 76) hx hb dX11_feed_48 rfl ?_
            refine lv_istore (lv' := [(7, .int p1), (0, .ref m0), (1, .int p0), (2, .int p1), (3, .int p2), (4, .int p3), (5, .int p4), (6, .int v23_loc6)]) hx hb dX11_feed_76 hl (Nat.le_of_ble_eq_true rfl) rfl (fun ls hl => ?_)
            have b63 : iv 0 699 (y23_0 1) := feed_699 hfd_23 hro_23 (hI23_0 1 : iv 0 700 (y23_0 1)) (iv_w b62 (by decide) (by decide))
            refine lv_aload_n hx hb dX11_feed_78 rfl (lv_at hl 1 rfl) ?_
            refine va_get (D := (dC, dI)) (ci := 11) (v := .ref (ra 13)) (C := RX11) (T := TX11) (N := 61) hx hb hts hin11 hown hK hP 0 rfl rfl 14 (Nat.le_of_ble_eq_true rfl) hw_1 (fun _ h9 => h9) rfl dX11_feed_79 ?_
            refine lv_aload_n hx hb dX11_feed_82 rfl (lv_at hl 1 rfl) ?_
            refine va_get (D := (dC, dI)) (ci := 11) (v := .int (y23_0 1)) (C := RX11) (T := TX11) (N := 61) hx hb hts hin11 hown hK hP 0 rfl rfl 15 (Nat.le_of_ble_eq_true rfl) hw_0 (fun _ h9 => h9) rfl dX11_feed_83 ?_
            refine lv_iload hx hb dX11_feed_86 (lv_at hl 0 rfl) ?_
            refine lv_bipush (v := 24) hx hb dX11_feed_88 bp_24 ?_
            refine lv_bipush (v := 8) hx hb dX11_feed_90 bp_8 ?_
            refine lv_iload hx hb dX11_feed_92 (lv_at hl 7 rfl) ?_
            refine lv_iconst (v := 4) hx hb dX11_feed_94 ic_4 ?_
            refine lv_irem hx hb dX11_feed_95 (by decide) ?_
            refine iv_top (a := 0) (b := 3) (iv_rem b62 ivk_4 (by decide) (by decide) (by decide) (by decide)) (fun z64 b65 => ?_)
            refine lv_imul hx hb dX11_feed_96 ?_
            refine iv_top (a := 0) (b := 24) (iv_mul ivk_8 b65 (by decide) (by decide) (by decide) (by decide) (by decide)) (fun z66 b67 => ?_)
            refine lv_isub hx hb dX11_feed_97 ?_
            refine iv_top (a := 0) (b := 24) (iv_sub ivk_24 b67 (by decide) (by decide) (by decide) (by decide)) (fun z68 b69 => ?_)
            refine lv_ishr hx hb dX11_feed_98 ?_
            refine lv_topi (fun z70 _ => ?_)
            refine lv_sipush (v := 255) hx hb dX11_feed_99 (by decide) ?_
            refine lv_iand hx hb dX11_feed_102 ?_
            refine iv_top (a := 0) (b := 255) (iv_and (m := 255) (by decide) (by decide) (by decide)) (fun z71 b72 => ?_)
            refine va_iast hx hb hK hP hD hS 1 1 rfl rfl (iv_in b63 (by decide) (by decide)) dX11_feed_103 (fun H locs hPa hDa hS => ?_)
            clear hP hD
            have hP : va_P (dC, dI) vwCl [(m0, .inr (11, oX11 ra y23_0)), (ra 13, .inl (kI, 700, .inl (upd g23_1 (y23_0 1).toNatClampNeg z71)))] H := hPa
            have hD : va_D A [(m0, .inr (11, oX11 ra y23_0)), (ra 13, .inl (kI, 700, .inl (upd g23_1 (y23_0 1).toNatClampNeg z71)))] := hDa
            clear hPa hDa
            have hf74 : fI (fun _ => 0) (fun _ => 255) (upd g23_1 (y23_0 1).toNatClampNeg z71) := fI_u hI23_1 (k := (y23_0 1).toNatClampNeg) (b72)
            generalize (upd g23_1 (y23_0 1).toNatClampNeg z71) = f73 at hP hD hf74
            refine lv_aload_n hx hb dX11_feed_104 rfl (lv_at hl 1 rfl) ?_
            refine lv_dup hx hb dX11_feed_105 rfl ?_
            refine va_get (D := (dC, dI)) (ci := 11) (v := .int (y23_0 1)) (C := RX11) (T := TX11) (N := 61) hx hb hts hin11 hown hK hP 0 rfl rfl 15 (Nat.le_of_ble_eq_true rfl) hw_0 (fun _ h9 => h9) rfl dX11_feed_106 ?_
            refine lv_iconst (v := 1) hx hb dX11_feed_109 ic_1 ?_
            refine lv_iadd hx hb dX11_feed_110 ?_
            have b75 : iv 1 700 ((y23_0 1) + 1) := iv_add b63 ivk_1 (by decide) (by decide) (by decide) (by decide)
            have t76 : ((y23_0 1) + 1).toInt = (y23_0 1).toInt + 1 := iv_addc b63 (by decide) (by decide) (by decide)
            refine va_put (D := (dC, dI)) (ci := 11) (v := .int ((y23_0 1) + 1)) (ty := .int) (C := RX11) (T := TX11) (N := 61) hx hb hts hin11 tyX11 tyX11_ok nmX11 hown hK hP hD hS 0 rfl rfl 15 (by decide) hw_0 (fun _ h9 => h9) rfl (by decide +kernel) rfl rfl (Nat.le_of_ble_eq_true rfl) dX11_feed_111 (fun H locs hPa hDa hS => ?_)
            clear hP hD
            have hP : va_P (dC, dI) vwCl [(m0, .inr (11, oX11 ra (upd y23_0 1 ((y23_0 1) + 1)))), (ra 13, .inl (kI, 700, .inl f73))] H := hPa
            have hD : va_D A [(m0, .inr (11, oX11 ra (upd y23_0 1 ((y23_0 1) + 1)))), (ra 13, .inl (kI, 700, .inl f73))] := hDa
            clear hPa hDa
            refine lv_iinc (v := v23_loc6 + Int32.ofInt 1) (lv' := [(6, .int (v23_loc6 + Int32.ofInt 1)), (7, .int p1), (0, .ref m0), (1, .int p0), (2, .int p1), (3, .int p2), (4, .int p3), (5, .int p4)]) hx hb dX11_feed_114 hl (k := 7) rfl (rfl) (Nat.le_of_ble_eq_true rfl) rfl (fun ls hl => ?_)
            have b77 : iv 5 8 (v23_loc6 + Int32.ofInt 1) := iv_add b62 ivo_1 (by decide) (by decide) (by decide) (by decide)
            have t78 : (v23_loc6 + Int32.ofInt 1).toInt = v23_loc6.toInt + 1 := iv_inc 1 b62 (by decide) (by decide) (by decide) (by decide)
            refine lv_goto (tgt := 23) hx hb dX11_feed_117 rfl ?_
            exact ih23 (upd y23_0 1 ((y23_0 1) + 1)) f73 (v23_loc6 + Int32.ofInt 1) _ _ _ (ms_up (c := 1) (d := 0) b62 hm23 (by decide) (iv_inc 1 b62 (by decide) (by decide) (by decide) (by decide)) (by decide) rfl) ((fI_u hI23_0 (k := 1) ((iv_w b75 (by decide) (by decide))))) (hf74) ((iv_w b77 (by decide) (by decide))) (h23_4) (h23_5) ((show ((y23_0 1) + 1).toInt = (x0 1).toInt + (v23_loc6 + Int32.ofInt 1).toInt from by have q5 := hfd_23; omega)) ((show (x0 1).toInt + 20 ≤ 700 from hro_23)) ((show y23_0 10 = x0 10 from hfp_23)) ((show y23_0 23 = x0 23 from hhm_23)) (hP) (hD) hS (lv_sub hl [2, 3, 4, 5, 6, 7, 0] rfl)
        · have b79 : iv 0 3 v23_loc6 := iv_ltL (Int32.not_le.mp c4) b3 ivk_4 (by decide) (by decide)
          refine lv_iload_n hx hb dX11_feed_36 rfl (lv_at hl 1 rfl) ?_
          refine lv_goto (tgt := 76) hx hb dX11_feed_37 rfl ?_
          refine lv_istore (lv' := [(7, .int p0), (0, .ref m0), (1, .int p0), (2, .int p1), (3, .int p2), (4, .int p3), (5, .int p4), (6, .int v23_loc6)]) hx hb dX11_feed_76 hl (Nat.le_of_ble_eq_true rfl) rfl (fun ls hl => ?_)
          have b80 : iv 0 699 (y23_0 1) := feed_699 hfd_23 hro_23 (hI23_0 1 : iv 0 700 (y23_0 1)) (iv_w b79 (by decide) (by decide))
          refine lv_aload_n hx hb dX11_feed_78 rfl (lv_at hl 1 rfl) ?_
          refine va_get (D := (dC, dI)) (ci := 11) (v := .ref (ra 13)) (C := RX11) (T := TX11) (N := 61) hx hb hts hin11 hown hK hP 0 rfl rfl 14 (Nat.le_of_ble_eq_true rfl) hw_1 (fun _ h9 => h9) rfl dX11_feed_79 ?_
          refine lv_aload_n hx hb dX11_feed_82 rfl (lv_at hl 1 rfl) ?_
          refine va_get (D := (dC, dI)) (ci := 11) (v := .int (y23_0 1)) (C := RX11) (T := TX11) (N := 61) hx hb hts hin11 hown hK hP 0 rfl rfl 15 (Nat.le_of_ble_eq_true rfl) hw_0 (fun _ h9 => h9) rfl dX11_feed_83 ?_
          refine lv_iload hx hb dX11_feed_86 (lv_at hl 0 rfl) ?_
          refine lv_bipush (v := 24) hx hb dX11_feed_88 bp_24 ?_
          refine lv_bipush (v := 8) hx hb dX11_feed_90 bp_8 ?_
          refine lv_iload hx hb dX11_feed_92 (lv_at hl 7 rfl) ?_
          refine lv_iconst (v := 4) hx hb dX11_feed_94 ic_4 ?_
          refine lv_irem hx hb dX11_feed_95 (by decide) ?_
          refine iv_top (a := 0) (b := 3) (iv_rem b79 ivk_4 (by decide) (by decide) (by decide) (by decide)) (fun z81 b82 => ?_)
          refine lv_imul hx hb dX11_feed_96 ?_
          refine iv_top (a := 0) (b := 24) (iv_mul ivk_8 b82 (by decide) (by decide) (by decide) (by decide) (by decide)) (fun z83 b84 => ?_)
          refine lv_isub hx hb dX11_feed_97 ?_
          refine iv_top (a := 0) (b := 24) (iv_sub ivk_24 b84 (by decide) (by decide) (by decide) (by decide)) (fun z85 b86 => ?_)
          refine lv_ishr hx hb dX11_feed_98 ?_
          refine lv_topi (fun z87 _ => ?_)
          refine lv_sipush (v := 255) hx hb dX11_feed_99 (by decide) ?_
          refine lv_iand hx hb dX11_feed_102 ?_
          refine iv_top (a := 0) (b := 255) (iv_and (m := 255) (by decide) (by decide) (by decide)) (fun z88 b89 => ?_)
          refine va_iast hx hb hK hP hD hS 1 1 rfl rfl (iv_in b80 (by decide) (by decide)) dX11_feed_103 (fun H locs hPa hDa hS => ?_)
          clear hP hD
          have hP : va_P (dC, dI) vwCl [(m0, .inr (11, oX11 ra y23_0)), (ra 13, .inl (kI, 700, .inl (upd g23_1 (y23_0 1).toNatClampNeg z88)))] H := hPa
          have hD : va_D A [(m0, .inr (11, oX11 ra y23_0)), (ra 13, .inl (kI, 700, .inl (upd g23_1 (y23_0 1).toNatClampNeg z88)))] := hDa
          clear hPa hDa
          have hf91 : fI (fun _ => 0) (fun _ => 255) (upd g23_1 (y23_0 1).toNatClampNeg z88) := fI_u hI23_1 (k := (y23_0 1).toNatClampNeg) (b89)
          generalize (upd g23_1 (y23_0 1).toNatClampNeg z88) = f90 at hP hD hf91
          refine lv_aload_n hx hb dX11_feed_104 rfl (lv_at hl 1 rfl) ?_
          refine lv_dup hx hb dX11_feed_105 rfl ?_
          refine va_get (D := (dC, dI)) (ci := 11) (v := .int (y23_0 1)) (C := RX11) (T := TX11) (N := 61) hx hb hts hin11 hown hK hP 0 rfl rfl 15 (Nat.le_of_ble_eq_true rfl) hw_0 (fun _ h9 => h9) rfl dX11_feed_106 ?_
          refine lv_iconst (v := 1) hx hb dX11_feed_109 ic_1 ?_
          refine lv_iadd hx hb dX11_feed_110 ?_
          have b92 : iv 1 700 ((y23_0 1) + 1) := iv_add b80 ivk_1 (by decide) (by decide) (by decide) (by decide)
          have t93 : ((y23_0 1) + 1).toInt = (y23_0 1).toInt + 1 := iv_addc b80 (by decide) (by decide) (by decide)
          refine va_put (D := (dC, dI)) (ci := 11) (v := .int ((y23_0 1) + 1)) (ty := .int) (C := RX11) (T := TX11) (N := 61) hx hb hts hin11 tyX11 tyX11_ok nmX11 hown hK hP hD hS 0 rfl rfl 15 (by decide) hw_0 (fun _ h9 => h9) rfl (by decide +kernel) rfl rfl (Nat.le_of_ble_eq_true rfl) dX11_feed_111 (fun H locs hPa hDa hS => ?_)
          clear hP hD
          have hP : va_P (dC, dI) vwCl [(m0, .inr (11, oX11 ra (upd y23_0 1 ((y23_0 1) + 1)))), (ra 13, .inl (kI, 700, .inl f90))] H := hPa
          have hD : va_D A [(m0, .inr (11, oX11 ra (upd y23_0 1 ((y23_0 1) + 1)))), (ra 13, .inl (kI, 700, .inl f90))] := hDa
          clear hPa hDa
          refine lv_iinc (v := v23_loc6 + Int32.ofInt 1) (lv' := [(6, .int (v23_loc6 + Int32.ofInt 1)), (7, .int p0), (0, .ref m0), (1, .int p0), (2, .int p1), (3, .int p2), (4, .int p3), (5, .int p4)]) hx hb dX11_feed_114 hl (k := 7) rfl (rfl) (Nat.le_of_ble_eq_true rfl) rfl (fun ls hl => ?_)
          have b94 : iv 1 4 (v23_loc6 + Int32.ofInt 1) := iv_add b79 ivo_1 (by decide) (by decide) (by decide) (by decide)
          have t95 : (v23_loc6 + Int32.ofInt 1).toInt = v23_loc6.toInt + 1 := iv_inc 1 b79 (by decide) (by decide) (by decide) (by decide)
          refine lv_goto (tgt := 23) hx hb dX11_feed_117 rfl ?_
          exact ih23 (upd y23_0 1 ((y23_0 1) + 1)) f90 (v23_loc6 + Int32.ofInt 1) _ _ _ (ms_up (c := 1) (d := 0) b79 hm23 (by decide) (iv_inc 1 b79 (by decide) (by decide) (by decide) (by decide)) (by decide) rfl) ((fI_u hI23_0 (k := 1) ((iv_w b92 (by decide) (by decide))))) (hf91) ((iv_w b94 (by decide) (by decide))) (h23_4) (h23_5) ((show ((y23_0 1) + 1).toInt = (x0 1).toInt + (v23_loc6 + Int32.ofInt 1).toInt from by have q5 := hfd_23; omega)) ((show (x0 1).toInt + 20 ≤ 700 from hro_23)) ((show y23_0 10 = x0 10 from hfp_23)) ((show y23_0 23 = x0 23 from hhm_23)) (hP) (hD) hS (lv_sub hl [2, 3, 4, 5, 6, 7, 0] rfl)
  refine lv_aload_n hx hb dX11_feed_0 rfl (lv_at hl 0 rfl) ?_
  refine lv_iconst (v := 0) hx hb dX11_feed_1 ic_0 ?_
  refine va_put (D := (dC, dI)) (ci := 11) (v := .int 0) (ty := .int) (C := RX11) (T := TX11) (N := 61) hx hb hts hin11 tyX11 tyX11_ok nmX11 hown hK hP hD hS 0 rfl rfl 2 (by decide) hw_2 (fun _ h9 => h9) rfl (by decide +kernel) rfl rfl (Nat.le_of_ble_eq_true rfl) dX11_feed_2 (fun H locs hPa hDa hS => ?_)
  clear hP hD
  have hP : va_P (dC, dI) vwCl [(m0, .inr (11, oX11 ra (upd x0 0 0))), (ra 13, .inl (kI, 700, .inl q_tape))] H := hPa
  have hD : va_D A [(m0, .inr (11, oX11 ra (upd x0 0 0))), (ra 13, .inl (kI, 700, .inl q_tape))] := hDa
  clear hPa hDa
  refine lv_aload_n hx hb dX11_feed_5 rfl (lv_at hl 0 rfl) ?_
  refine va_get (D := (dC, dI)) (ci := 11) (v := .int (x0 1)) (C := RX11) (T := TX11) (N := 61) hx hb hts hin11 hown hK hP 0 rfl rfl 15 (Nat.le_of_ble_eq_true rfl) hw_0 (fun _ h9 => h9) rfl dX11_feed_6 ?_
  refine lv_bipush (v := 20) hx hb dX11_feed_9 bp_20 ?_
  refine lv_iadd hx hb dX11_feed_11 ?_
  have b96 : iv 20 720 ((x0 1) + 20) := iv_add (hX 1 : iv 0 700 (x0 1)) ivk_20 (by decide) (by decide) (by decide) (by decide)
  have t97 : ((x0 1) + 20).toInt = (x0 1).toInt + 20 := iv_addc (hX 1 : iv 0 700 (x0 1)) (by decide) (by decide) (by decide)
  refine lv_sipush (v := 700) hx hb dX11_feed_12 (by decide) ?_
  refine lv_icmp_le (tgt := 20) hx hb dX11_feed_15 rfl (fun c98 => ?_) (fun c98 => ?_)
  · have b99 : iv 20 700 ((x0 1) + 20) := iv_leL c98 b96 ivk_700 (by decide) (by decide)
    refine lv_iconst (v := 0) hx hb dX11_feed_20 ic_0 ?_
    refine lv_istore (lv' := [(6, .int 0), (0, .ref m0), (1, .int p0), (2, .int p1), (3, .int p2), (4, .int p3), (5, .int p4)]) hx hb dX11_feed_21 hl (Nat.le_of_ble_eq_true rfl) rfl (fun ls hl => ?_)
    exact hJ23 _ (upd x0 0 0) q_tape 0 _ _ _ (Nat.lt_succ_self _) ((fI_u hX (k := 0) ((iv_w ivk_0 (by decide) (by decide))))) (hq_tape) ((iv_w ivk_0 (by decide) (by decide))) (ivk_0) (b99) ((show (x0 1).toInt = (x0 1).toInt + ((0 : Int32)).toInt from by rw [show ((0 : Int32)).toInt = 0 from by decide]; omega)) ((show (x0 1).toInt + 20 ≤ 700 from room_20 (hX 1 : iv 0 700 (x0 1)) c98)) ((show x0 10 = x0 10 from rfl)) ((show x0 23 = x0 23 from rfl)) (hP) (hD) hS (lv_sub hl [1, 2, 3, 4, 5, 6, 0] rfl)
  · have b100 : iv 701 720 ((x0 1) + 20) := iv_ltR (Int32.not_le.mp c98) ivk_700 b96 (by decide) (by decide)
    refine lv_iconst (v := (-1)) hx hb dX11_feed_18 ic_m1 ?_
    have hP9 := hP
    have hD9 := hD
    exact W.iret (v := (-1)) hx hb hr (fun t ht hW => ⟨⟨(-1), (), rfl, (iv_w ivk_m1 (by decide) (by decide)), upd x0 0 0, q_tape, (fI_u hX (k := 0) ((iv_w ivk_0 (by decide) (by decide)))), hq_tape, (show x0 10 = x0 10 from rfl), (show x0 23 = x0 23 from rfl), by rw [ht]; exact hP9, hD9⟩, hS.F ht⟩) hS.2.2 dX11_feed_19
def rm_s11_byteAt : Room := { frames := 0, cells := 0, slots := 0, locals := 0 }
set_option maxHeartbeats 4000000 in
set_option maxRecDepth 100000 in
theorem s11_byteAt (l : Launch) (dC : Nat → ClassId) (dI : Nat → Nat → Nat) (kB kI kJ kZ kC kS : ClassId) (sz : Nat) (m0 : Nat) (ra : Nat → Nat) (x0 : Nat → Int32) (q_tape : Nat → Int32) (p0 : Int32) (hX : fI lX11 hX11 x0) (hq_tape : fI (fun _ => 0) (fun _ => 255) q_tape) (hp0 : iv 0 700 p0) : Met l yX11_byteAt wsX11_byteAt rm_s11_byteAt (va_Pc [.ref m0, .int p0] (fun U => U.heap.size = sz ∧ va_P (dC, dI) vwCl [(m0, .inr (11, oX11 ra x0)), (ra 13, .inl (kI, 700, .inl q_tape))] U.heap ∧ kE dC dI kB kI kJ kZ kC kS U ∧ va_D (fun _ => True) [(m0, .inr (11, oX11 ra x0)), (ra 13, .inl (kI, 700, .inl q_tape))])) (va_Qi (fun (r : Int32) (_ : Unit) => r = byA q_tape (x0 3) p0 ∧ iv (-1) 255 r) (fun _ t => (byA q_tape (x0 3) p0 = -1 ∨ iv 0 699 p0) ∧ va_P (dC, dI) vwCl [(m0, .inr (11, oX11 ra x0)), (ra 13, .inl (kI, 700, .inl q_tape))] t.heap ∧ va_D (va_A [(m0, .inr (11, oX11 ra x0)), (ra 13, .inl (kI, 700, .inl q_tape))] sz) [(m0, .inr (11, oX11 ra x0)), (ra 13, .inl (kI, 700, .inl q_tape))]) (va_A [(m0, .inr (11, oX11 ra x0)), (ra 13, .inl (kI, 700, .inl q_tape))] sz)) 0 0 (va_A [(m0, .inr (11, oX11 ra x0)), (ra 13, .inl (kI, 700, .inl q_tape))] sz) := by
  refine Met.ofW (cc := cX11_byteAt) (maxL := 2) (ret := (some .int)) (by decide) rfl ?_
  intro p e s m args0 below meth c s₁ B hml hv
  obtain ⟨hargs, hsz, hP, hE, hD0⟩ := hv
  have hx := B.exec
  have hb := B.bytes
  have hr := B.returns
  have hts := atoms_spec (ws := wsX11_byteAt) B.pre
  have hown : s.vm.findClass RX11 = some m.cls := findClass_of_methodNamed B.named
  have hlocks := B.notSynchronized
  have hK := hE.1
  have hin11 : ∀ w ∈ wsX110, w ∈ wsX11_byteAt := fun _ h9 => List.mem_cons_of_mem _ (List.mem_append_right _ h9)
  have hw_0 := hts (.fieldLink RX11 148 "PathProberModel" "textSize" "I") (List.mem_of_getElem? (i := 1) rfl)
  have hw_1 := hts (.fieldLink RX11 66 "PathProberModel" "tape" "[I") (List.mem_of_getElem? (i := 2) rfl)
  subst hsz
  have hD := hD0.self (sz := s.heap.size)
  generalize hAe : va_A [(m0, .inr (11, oX11 ra x0)), (ra 13, .inl (kI, 700, .inl q_tape))] s.heap.size = A at hD ⊢
  have hA : ∀ q : Nat, s.heap.size ≤ q → A q := fun q h => by rw [← hAe]; exact Or.inr h
  have hS : va_S A s.heap s.heap [] := va_S.rf
  have hP : va_P (dC, dI) vwCl [(m0, .inr (11, oX11 ra x0)), (ra 13, .inl (kI, 700, .inl q_tape))] s.heap := hP
  have hl := lv_entry ([.ref m0, .int p0]) (n := 2) (Nat.le_of_ble_eq_true rfl)
  have hla : entryFrame m args0 2 = entryFrame m ([.ref m0, .int p0] : List Value).toArray 2 := by rw [hargs]
  rw [hla, lg_entry_eq]
  generalize (lg_sl ([.ref m0, .int p0]) ++ List.replicate (2 - (lg_sl ([.ref m0, .int p0])).length) Slot.unset).toArray = ls at hl ⊢
  have hl : lv_has ls 2 [(0, .ref m0), (1, .int p0)] := hl
  refine lv_iload_n hx hb dX11_byteAt_0 rfl (lv_at hl 1 rfl) ?_
  refine lv_aload_n hx hb dX11_byteAt_1 rfl (lv_at hl 0 rfl) ?_
  refine va_get (D := (dC, dI)) (ci := 11) (v := .int (x0 3)) (C := RX11) (T := TX11) (N := 61) hx hb hts hin11 hown hK hP 0 rfl rfl 17 (Nat.le_of_ble_eq_true rfl) hw_0 (fun _ h9 => h9) rfl dX11_byteAt_2 ?_
  refine lv_icmp_ge (tgt := 17) hx hb dX11_byteAt_5 rfl (fun c1 => ?_) (fun c1 => ?_)
  · refine lv_iconst (v := (-1)) hx hb dX11_byteAt_17 ic_m1 ?_
    have hP9 := hP
    have hD9 := hD
    exact W.iret (v := (-1)) hx hb hr (fun t ht hW => ⟨⟨(-1), (), rfl, ⟨byA_f c1, (iv_w ivk_m1 (by decide) (by decide))⟩, (show byA q_tape (x0 3) p0 = -1 ∨ iv 0 699 p0 from byA_699 (hX 3 : iv 0 700 (x0 3)) hp0), by rw [ht]; exact hP9, hD9⟩, hS.F ht⟩) hS.2.2 dX11_byteAt_18
  · have b2 : iv 0 699 p0 := iv_ltL (Int32.not_le.mp c1) hp0 (hX 3 : iv 0 700 (x0 3)) (by decide) (by decide)
    have b3 : iv 1 700 (x0 3) := iv_ltR (Int32.not_le.mp c1) hp0 (hX 3 : iv 0 700 (x0 3)) (by decide) (by decide)
    refine lv_aload_n hx hb dX11_byteAt_8 rfl (lv_at hl 0 rfl) ?_
    refine va_get (D := (dC, dI)) (ci := 11) (v := .ref (ra 13)) (C := RX11) (T := TX11) (N := 61) hx hb hts hin11 hown hK hP 0 rfl rfl 14 (Nat.le_of_ble_eq_true rfl) hw_1 (fun _ h9 => h9) rfl dX11_byteAt_9 ?_
    refine lv_iload_n hx hb dX11_byteAt_12 rfl (lv_at hl 1 rfl) ?_
    refine va_iald hx hb hK hP 1 1 rfl rfl (iv_in b2 (by decide) (by decide)) dX11_byteAt_13 ?_
    have b4 : iv 0 255 (q_tape p0.toNatClampNeg) := hq_tape _
    refine lv_goto (tgt := 18) hx hb dX11_byteAt_14 rfl ?_
    have hP9 := hP
    have hD9 := hD
    exact W.iret (v := q_tape p0.toNatClampNeg) hx hb hr (fun t ht hW => ⟨⟨q_tape p0.toNatClampNeg, (), rfl, ⟨byA_t (Int32.not_le.mp c1), (iv_w b4 (by decide) (by decide))⟩, (show byA q_tape (x0 3) p0 = -1 ∨ iv 0 699 p0 from byA_699 (iv_w b3 (by decide) (by decide)) hp0), by rw [ht]; exact hP9, hD9⟩, hS.F ht⟩) hS.2.2 dX11_byteAt_18
def rm_s11_stepOn : Room := { frames := 1, cells := 0, slots := 0, locals := 21 }
set_option maxHeartbeats 4000000 in
set_option maxRecDepth 100000 in
theorem s11_stepOn (l : Launch) (dC : Nat → ClassId) (dI : Nat → Nat → Nat) (kB kI kJ kZ kC kS : ClassId) (sz : Nat) (m0 : Nat) (ra : Nat → Nat) (x0 : Nat → Int32) (q_tape : Nat → Int32) (tT : Nat → Int32) (nN : Int32) (uS : StT) (hX : fI lX11 hX11 x0) (hq_tape : fI (fun _ => 0) (fun _ => 255) q_tape) (hRr : x0 3 = nN) (hSt : StpT tT nN x0 uS) (hTQ : tT = q_tape) : Met l yX11_stepOn wsX11_stepOn rm_s11_stepOn (va_Pc [.ref m0] (fun U => U.heap.size = sz ∧ va_P (dC, dI) vwCl [(m0, .inr (11, oX11 ra x0)), (ra 13, .inl (kI, 700, .inl q_tape))] U.heap ∧ kE dC dI kB kI kJ kZ kC kS U ∧ va_D (fun _ => True) [(m0, .inr (11, oX11 ra x0)), (ra 13, .inl (kI, 700, .inl q_tape))])) (va_Qv (fun (_ : Unit) => True) (fun _ t => ∃ (x0' : Nat → Int32), fI lX11 hX11 x0' ∧ ((x0 2).toInt ≤ (x0' 2).toInt) ∧ (x0' 3 = x0 3) ∧ (x0' 4 = 0 ∨ (x0 2).toInt + 1 ≤ (x0' 2).toInt) ∧ (RRd tT nN x0' (uS)) ∧ (x0' 1 = x0 1) ∧ (x0' 10 = x0 10) ∧ (x0' 23 = x0 23) ∧ va_P (dC, dI) vwCl [(m0, .inr (11, oX11 ra x0')), (ra 13, .inl (kI, 700, .inl q_tape))] t.heap ∧ va_D (va_A [(m0, .inr (11, oX11 ra x0)), (ra 13, .inl (kI, 700, .inl q_tape))] sz) [(m0, .inr (11, oX11 ra x0')), (ra 13, .inl (kI, 700, .inl q_tape))]) (va_A [(m0, .inr (11, oX11 ra x0)), (ra 13, .inl (kI, 700, .inl q_tape))] sz)) 0 0 (va_A [(m0, .inr (11, oX11 ra x0)), (ra 13, .inl (kI, 700, .inl q_tape))] sz) := by
  refine Met.ofW (cc := cX11_stepOn) (maxL := 2) (ret := none) (by decide) rfl ?_
  intro p e s m args0 below meth c s₁ B hml hv
  obtain ⟨hargs, hsz, hP, hE, hD0⟩ := hv
  have hx := B.exec
  have hb := B.bytes
  have hr := B.returns
  have hts := atoms_spec (ws := wsX11_stepOn) B.pre
  have hown : s.vm.findClass RX11 = some m.cls := findClass_of_methodNamed B.named
  have hlocks := B.notSynchronized
  have hK := hE.1
  have hin11 : ∀ w ∈ wsX110, w ∈ wsX11_stepOn := fun _ h9 => List.mem_cons_of_mem _ (List.mem_append_right _ h9)
  have hw_0 := hts (.fieldLink RX11 151 "PathProberModel" "at" "I") (List.mem_of_getElem? (i := 1) rfl)
  have hw_1 := hts (.fieldLink RX11 161 "PathProberModel" "token" "I") (List.mem_of_getElem? (i := 3) rfl)
  have hw_2 := hts (.fieldLink RX11 181 "PathProberModel" "stops" "I") (List.mem_of_getElem? (i := 10) rfl)
  have hw_3 := hts (.constant RX11 174 (100000)) (List.mem_of_getElem? (i := 5) rfl)
  have hw_4 := hts (.fieldLink RX11 171 "PathProberModel" "number" "I") (List.mem_of_getElem? (i := 4) rfl)
  have hw_5 := hts (.methodLink RX11 175 Lib.Math.min.name) (List.mem_of_getElem? (i := 6) rfl)
  have hw_6 := hts (.static Lib.Math.min.name) (List.mem_of_getElem? (i := 7) rfl)
  have hw_7 := hts (.initialized "java/lang/Math") (List.mem_of_getElem? (i := 8) rfl)
  have hw_8 := hts (.code Lib.Math.min.name Lib.Math.min.code 2 (some .int)) (List.mem_of_getElem? (i := 9) rfl)
  have hw_9 := hts (.fieldLink RX11 158 "PathProberModel" "begins" "I") (List.mem_of_getElem? (i := 2) rfl)
  subst hsz
  have hD := hD0.self (sz := s.heap.size)
  generalize hAe : va_A [(m0, .inr (11, oX11 ra x0)), (ra 13, .inl (kI, 700, .inl q_tape))] s.heap.size = A at hD ⊢
  have hA : ∀ q : Nat, s.heap.size ≤ q → A q := fun q h => by rw [← hAe]; exact Or.inr h
  have hS : va_S A s.heap s.heap [] := va_S.rf
  have hP : va_P (dC, dI) vwCl [(m0, .inr (11, oX11 ra x0)), (ra 13, .inl (kI, 700, .inl q_tape))] s.heap := hP
  have hl := lv_entry ([.ref m0]) (n := 2) (Nat.le_of_ble_eq_true rfl)
  have hla : entryFrame m args0 2 = entryFrame m ([.ref m0] : List Value).toArray 2 := by rw [hargs]
  rw [hla, lg_entry_eq]
  generalize (lg_sl ([.ref m0]) ++ List.replicate (2 - (lg_sl ([.ref m0])).length) Slot.unset).toArray = ls at hl ⊢
  have hl : lv_has ls 2 [(0, .ref m0)] := hl
  have hJ123 : ∀ (n : Nat) (y123_0 : Nat → Int32) (v123_loc1 : Int32) (H : Heap) (locs : List Loc) (ls : Array Slot), (700 - (y123_0 2).toInt).toNat < n → fI lX11 hX11 y123_0 → iv 48 57 v123_loc1 → iv 0 699 (y123_0 6) → ((x0 2).toInt + 1 ≤ (y123_0 2).toInt ∨ ¬ isDg (byA q_tape (x0 3) (y123_0 2)) = 0) → (R123 tT nN x0 y123_0) → ((x0 2).toInt ≤ (y123_0 2).toInt) → (y123_0 3 = x0 3) → (y123_0 1 = x0 1) → (y123_0 10 = x0 10) → (y123_0 23 = x0 23) → va_P (dC, dI) vwCl [(m0, .inr (11, oX11 ra y123_0)), (ra 13, .inl (kI, 700, .inl q_tape))] H → va_D A [(m0, .inr (11, oX11 ra y123_0)), (ra 13, .inl (kI, 700, .inl q_tape))] → va_S A s.heap H locs → lv_has ls 2 [(0, .ref m0), (1, .int v123_loc1)] → W p l e (headSpec wsX11_stepOn rm_s11_stepOn).room s m args0 below meth c H locs (0) (0) (MQ below (va_Qv (fun (_ : Unit) => True) (fun _ t => ∃ (x0' : Nat → Int32), fI lX11 hX11 x0' ∧ ((x0 2).toInt ≤ (x0' 2).toInt) ∧ (x0' 3 = x0 3) ∧ (x0' 4 = 0 ∨ (x0 2).toInt + 1 ≤ (x0' 2).toInt) ∧ (RRd tT nN x0' (uS)) ∧ (x0' 1 = x0 1) ∧ (x0' 10 = x0 10) ∧ (x0' 23 = x0 23) ∧ va_P (dC, dI) vwCl [(m0, .inr (11, oX11 ra x0')), (ra 13, .inl (kI, 700, .inl q_tape))] t.heap ∧ va_D A [(m0, .inr (11, oX11 ra x0')), (ra 13, .inl (kI, 700, .inl q_tape))]) A) args0 s 0 0 A) (F0 m 123 ls []) := by
    intro n
    induction n with
    | zero => intro y123_0 v123_loc1 H locs ls hm123; exact absurd hm123 (Nat.not_lt_zero _)
    | succ n ih123 =>
      intro y123_0 v123_loc1 H locs ls hm123 hI123_0 h123_2 h123_3 hsx_123 hk_123 hat_123 hts_123 htp_123 hfp_123 hhm_123 hP hD hS hl
      refine lv_aload_n hx hb dX11_stepOn_123 rfl (lv_at hl 0 rfl) ?_
      refine lv_aload_n hx hb dX11_stepOn_124 rfl (lv_at hl 0 rfl) ?_
      refine va_get (D := (dC, dI)) (ci := 11) (v := .int (y123_0 2)) (C := RX11) (T := TX11) (N := 61) hx hb hts hin11 hown hK hP 0 rfl rfl 16 (Nat.le_of_ble_eq_true rfl) hw_0 (fun _ h9 => h9) rfl dX11_stepOn_125 ?_
      obtain ⟨hPc, hDc, hFc, hJn⟩ := cl_a (wc := [(m0, .inr (11, oX11 ra y123_0)), (ra 13, .inl (kI, 700, .inl q_tape))]) (wr := []) hP hD hS hA [0, 1] [] rfl rfl (by decide +kernel)
      refine va_calli (va_runV (As := [.int (y123_0 2)]) (rest := []) ⟨hx, hb, hml, hown, hts⟩ (s11_byteAt l dC dI kB kI kJ kZ kC kS H.size m0 ra y123_0 q_tape (y123_0 2) (hI123_0) (hq_tape) ((hI123_0 2 : iv 0 700 (y123_0 2)))) (cwV 1 hts gX11_stepOn_X11_byteAt rfl rfl rfl (by decide +kernel) ⟨Nat.le_of_ble_eq_true rfl, Nat.le_of_ble_eq_true rfl⟩) ⟨fun a U g mk q => by obtain ⟨q0, q1, qP, qE, qD⟩ := q; exact ⟨q0, q1, qP, kE_call qE, qD⟩, va_recv hK hP (ci := 11) (q0 := 0) rfl rfl, fun U hU hW => ⟨rfl, by rw [hU], by rw [hU]; exact hPc, kE_warm hW hE, hDc.weaken (fun _ _ _ _ => trivial)⟩⟩ rfl rfl hl.1 rfl (lv_room (Nat.le_of_ble_eq_true rfl)) dX11_stepOn_128 ⟨Nat.le_of_ble_eq_true rfl, Nat.le_of_ble_eq_true rfl⟩) hS (fun q _ h => hFc q h) hFc (fun r1 u t H locs ht hvm w2 hB hz1 hk1 hS => ?_)
      obtain ⟨hq3, hP1, hD1⟩ := hB
      try dsimp only at w2
      obtain ⟨hPa, hDa⟩ := hJn (w1 := [(m0, .inr (11, oX11 ra y123_0)), (ra 13, .inl (kI, 700, .inl q_tape))]) hk1 ht hP1 hD1
      clear hP hD hPc hDc hFc hJn hP1 hD1 hk1
      have hP : va_P (dC, dI) vwCl [(m0, .inr (11, oX11 ra y123_0)), (ra 13, .inl (kI, 700, .inl q_tape))] H := hPa
      have hD : va_D A [(m0, .inr (11, oX11 ra y123_0)), (ra 13, .inl (kI, 700, .inl q_tape))] := hDa
      clear hPa hDa
      refine W.widen (k := 0) (n := 0) (Nat.le_of_ble_eq_true rfl) (Nat.le_of_ble_eq_true rfl) ?_
      obtain ⟨w2, b4⟩ := w2
      subst w2
      obtain ⟨hPc, hDc, hFc, hJn⟩ := cl_a (wc := []) (wr := [(m0, .inr (11, oX11 ra y123_0)), (ra 13, .inl (kI, 700, .inl q_tape))]) hP hD hS hA [] [0, 1] rfl rfl (by decide +kernel)
      refine va_calli (va_runS (As := [.int (byA q_tape (y123_0 3) (y123_0 2))]) (rest := []) ⟨hx, hb, hml, hown, hts⟩ (s11_isDigit l dC dI kB kI kJ kZ kC kS H.size (byA q_tape (y123_0 3) (y123_0 2))) (va_cwS 1 hts gX11_stepOn_X11_isDigit rfl rfl rfl (by decide +kernel) ⟨Nat.le_of_ble_eq_true rfl, Nat.le_of_ble_eq_true rfl⟩) ⟨fun a U g mk q => by obtain ⟨q0, q1, qP, qE, qD⟩ := q; exact ⟨q0, q1, qP, kE_call qE, qD⟩, fun U hU hW => ⟨rfl, by rw [hU], by rw [hU]; exact hPc, kE_warm hW hE, hDc.weaken (fun _ _ _ _ => trivial)⟩⟩ rfl rfl hl.1 rfl (lv_room (Nat.le_of_ble_eq_true rfl)) dX11_stepOn_131 ⟨Nat.le_of_ble_eq_true rfl, Nat.le_of_ble_eq_true rfl⟩) hS (fun q _ h => hFc q h) hFc (fun r5 u t H locs ht hvm w6 hB hz1 hk1 hS => ?_)
      obtain ⟨hP1, hD1⟩ := hB
      try dsimp only at w6
      obtain ⟨hPa, hDa⟩ := hJn (w1 := []) hk1 ht hP1 hD1
      clear hP hD hPc hDc hFc hJn hP1 hD1 hk1
      have hP : va_P (dC, dI) vwCl [(m0, .inr (11, oX11 ra y123_0)), (ra 13, .inl (kI, 700, .inl q_tape))] H := hPa
      have hD : va_D A [(m0, .inr (11, oX11 ra y123_0)), (ra 13, .inl (kI, 700, .inl q_tape))] := hDa
      clear hPa hDa
      refine W.widen (k := 0) (n := 0) (Nat.le_of_ble_eq_true rfl) (Nat.le_of_ble_eq_true rfl) ?_
      obtain ⟨w6, b7⟩ := w6
      subst w6
      refine lv_if_eq (tgt := 178) hx hb dX11_stepOn_134 rfl (fun c8 => ?_) (fun c8 => ?_)
      · have b9 : iv 0 0 (isDg (byA q_tape (y123_0 3) (y123_0 2))) := iv_eqL c8 ivk_0
        have hst10 : (x0 2).toInt + 1 ≤ (y123_0 2).toInt := hsx_123.resolve_right (fun w => w (by have q := c8; rw [hts_123] at q; exact q))
        refine lv_aload_n hx hb dX11_stepOn_178 rfl (lv_at hl 0 rfl) ?_
        refine lv_iconst (v := 2) hx hb dX11_stepOn_179 ic_2 ?_
        refine va_put (D := (dC, dI)) (ci := 11) (v := .int 2) (ty := .int) (C := RX11) (T := TX11) (N := 61) hx hb hts hin11 tyX11 tyX11_ok nmX11 hown hK hP hD hS 0 rfl rfl 18 (by decide) hw_1 (fun _ h9 => h9) rfl (by decide +kernel) rfl rfl (Nat.le_of_ble_eq_true rfl) dX11_stepOn_180 (fun H locs hPa hDa hS => ?_)
        clear hP hD
        have hP : va_P (dC, dI) vwCl [(m0, .inr (11, oX11 ra (upd y123_0 4 2))), (ra 13, .inl (kI, 700, .inl q_tape))] H := hPa
        have hD : va_D A [(m0, .inr (11, oX11 ra (upd y123_0 4 2))), (ra 13, .inl (kI, 700, .inl q_tape))] := hDa
        clear hPa hDa
        refine lv_goto (tgt := 211) hx hb dX11_stepOn_183 rfl ?_
        refine lv_aload_n hx hb dX11_stepOn_211 rfl (lv_at hl 0 rfl) ?_
        refine lv_aload_n hx hb dX11_stepOn_212 rfl (lv_at hl 0 rfl) ?_
        refine va_get (D := (dC, dI)) (ci := 11) (v := .int (y123_0 2)) (C := RX11) (T := TX11) (N := 61) hx hb hts hin11 hown hK hP 0 rfl rfl 16 (Nat.le_of_ble_eq_true rfl) hw_0 (fun _ h9 => h9) rfl dX11_stepOn_213 ?_
        refine va_put (D := (dC, dI)) (ci := 11) (v := .int (y123_0 2)) (ty := .int) (C := RX11) (T := TX11) (N := 61) hx hb hts hin11 tyX11 tyX11_ok nmX11 hown hK hP hD hS 0 rfl rfl 21 (by decide) hw_2 (fun _ h9 => h9) rfl (by decide +kernel) rfl rfl (Nat.le_of_ble_eq_true rfl) dX11_stepOn_216 (fun H locs hPa hDa hS => ?_)
        clear hP hD
        have hP : va_P (dC, dI) vwCl [(m0, .inr (11, oX11 ra (upd (upd y123_0 4 2) 7 (y123_0 2)))), (ra 13, .inl (kI, 700, .inl q_tape))] H := hPa
        have hD : va_D A [(m0, .inr (11, oX11 ra (upd (upd y123_0 4 2) 7 (y123_0 2)))), (ra 13, .inl (kI, 700, .inl q_tape))] := hDa
        clear hPa hDa
        have hP9 := hP
        have hD9 := hD
        exact W.vret hx hb hr (fun t ht hW => ⟨⟨(), rfl, trivial, upd (upd y123_0 4 2) 7 (y123_0 2), (fI_u (fI_u hI123_0 (k := 4) ((iv_w ivk_2 (by decide) (by decide)))) (k := 7) ((hI123_0 2 : iv 0 700 (y123_0 2)))), (show (x0 2).toInt ≤ (y123_0 2).toInt from by omega), (show y123_0 3 = x0 3 from hts_123), (show 2 = 0 ∨ (x0 2).toInt + 1 ≤ (y123_0 2).toInt from Or.inr (by omega)), (by subst hTQ; exact rs_d hRr hSt (hX 2 : iv 0 700 (x0 2)) hk_123 (iv_w h123_3 (by decide) (by decide)) (hI123_0 2 : iv 0 700 (y123_0 2)) c8), (show y123_0 1 = x0 1 from htp_123), (show y123_0 10 = x0 10 from hfp_123), (show y123_0 23 = x0 23 from hhm_123), by rw [ht]; exact hP9, hD9⟩, hS.F ht⟩) hS.2.2 dX11_stepOn_219
      · have b11 : iv 1 1 (isDg (byA q_tape (y123_0 3) (y123_0 2))) := iv_neLo c8 b7 ivk_0 (by decide) (by decide)
        have b12 : iv 48 57 (byA q_tape (y123_0 3) (y123_0 2)) := isDg_iv (iv_ne b11 ivk_0 (by decide))
        have b13 : iv 0 699 (y123_0 2) := (hq3).resolve_left (iv_ne b12 ivk_m1 (by decide))
        refine lv_aload_n hx hb dX11_stepOn_137 rfl (lv_at hl 0 rfl) ?_
        refine lv_ldc hx hb hown hw_3 dX11_stepOn_138 ?_
        refine lv_bipush (v := 10) hx hb dX11_stepOn_140 bp_10 ?_
        refine lv_aload_n hx hb dX11_stepOn_142 rfl (lv_at hl 0 rfl) ?_
        refine va_get (D := (dC, dI)) (ci := 11) (v := .int (y123_0 5)) (C := RX11) (T := TX11) (N := 61) hx hb hts hin11 hown hK hP 0 rfl rfl 19 (Nat.le_of_ble_eq_true rfl) hw_4 (fun _ h9 => h9) rfl dX11_stepOn_143 ?_
        refine lv_imul hx hb dX11_stepOn_146 ?_
        refine lv_aload_n hx hb dX11_stepOn_147 rfl (lv_at hl 0 rfl) ?_
        refine lv_aload_n hx hb dX11_stepOn_148 rfl (lv_at hl 0 rfl) ?_
        refine va_get (D := (dC, dI)) (ci := 11) (v := .int (y123_0 2)) (C := RX11) (T := TX11) (N := 61) hx hb hts hin11 hown hK hP 0 rfl rfl 16 (Nat.le_of_ble_eq_true rfl) hw_0 (fun _ h9 => h9) rfl dX11_stepOn_149 ?_
        obtain ⟨hPc, hDc, hFc, hJn⟩ := cl_a (wc := [(m0, .inr (11, oX11 ra y123_0)), (ra 13, .inl (kI, 700, .inl q_tape))]) (wr := []) hP hD hS hA [0, 1] [] rfl rfl (by decide +kernel)
        refine va_calli (va_runV (As := [.int (y123_0 2)]) (rest := [.int (10 * (y123_0 5)), .int 100000, .ref m0]) ⟨hx, hb, hml, hown, hts⟩ (s11_byteAt l dC dI kB kI kJ kZ kC kS H.size m0 ra y123_0 q_tape (y123_0 2) (hI123_0) (hq_tape) ((iv_w b13 (by decide) (by decide)))) (cwV 1 hts gX11_stepOn_X11_byteAt rfl rfl rfl (by decide +kernel) ⟨Nat.le_of_ble_eq_true rfl, Nat.le_of_ble_eq_true rfl⟩) ⟨fun a U g mk q => by obtain ⟨q0, q1, qP, qE, qD⟩ := q; exact ⟨q0, q1, qP, kE_call qE, qD⟩, va_recv hK hP (ci := 11) (q0 := 0) rfl rfl, fun U hU hW => ⟨rfl, by rw [hU], by rw [hU]; exact hPc, kE_warm hW hE, hDc.weaken (fun _ _ _ _ => trivial)⟩⟩ rfl rfl hl.1 rfl (lv_room (Nat.le_of_ble_eq_true rfl)) dX11_stepOn_152 ⟨Nat.le_of_ble_eq_true rfl, Nat.le_of_ble_eq_true rfl⟩) hS (fun q _ h => hFc q h) hFc (fun r14 u t H locs ht hvm w15 hB hz1 hk1 hS => ?_)
        obtain ⟨hq16, hP1, hD1⟩ := hB
        try dsimp only at w15
        obtain ⟨hPa, hDa⟩ := hJn (w1 := [(m0, .inr (11, oX11 ra y123_0)), (ra 13, .inl (kI, 700, .inl q_tape))]) hk1 ht hP1 hD1
        clear hP hD hPc hDc hFc hJn hP1 hD1 hk1
        have hP : va_P (dC, dI) vwCl [(m0, .inr (11, oX11 ra y123_0)), (ra 13, .inl (kI, 700, .inl q_tape))] H := hPa
        have hD : va_D A [(m0, .inr (11, oX11 ra y123_0)), (ra 13, .inl (kI, 700, .inl q_tape))] := hDa
        clear hPa hDa
        refine W.widen (k := 0) (n := 0) (Nat.le_of_ble_eq_true rfl) (Nat.le_of_ble_eq_true rfl) ?_
        obtain ⟨w15, b17⟩ := w15
        subst w15
        refine lv_iadd hx hb dX11_stepOn_155 ?_
        refine lv_bipush (v := 48) hx hb dX11_stepOn_156 bp_48 ?_
        refine lv_isub hx hb dX11_stepOn_158 ?_
        refine va_mmin hx hb (by rw [hml]; exact hl.1.symm) hown hw_5 hw_6 hw_7 hw_8 (Nat.le_of_ble_eq_true rfl) (Nat.le_of_ble_eq_true rfl) (Nat.le_of_ble_eq_true rfl) (Nat.le_of_ble_eq_true rfl) dX11_stepOn_159 ?_
        refine lv_topi (fun z18 e19 => ?_)
        refine va_put (D := (dC, dI)) (ci := 11) (v := .int z18) (ty := .int) (C := RX11) (T := TX11) (N := 61) hx hb hts hin11 tyX11 tyX11_ok nmX11 hown hK hP hD hS 0 rfl rfl 19 (by decide) hw_4 (fun _ h9 => h9) rfl (by decide +kernel) rfl rfl (Nat.le_of_ble_eq_true rfl) dX11_stepOn_162 (fun H locs hPa hDa hS => ?_)
        clear hP hD
        have hP : va_P (dC, dI) vwCl [(m0, .inr (11, oX11 ra (upd y123_0 5 z18))), (ra 13, .inl (kI, 700, .inl q_tape))] H := hPa
        have hD : va_D A [(m0, .inr (11, oX11 ra (upd y123_0 5 z18))), (ra 13, .inl (kI, 700, .inl q_tape))] := hDa
        clear hPa hDa
        refine lv_aload_n hx hb dX11_stepOn_165 rfl (lv_at hl 0 rfl) ?_
        refine lv_dup hx hb dX11_stepOn_166 rfl ?_
        refine va_get (D := (dC, dI)) (ci := 11) (v := .int (y123_0 2)) (C := RX11) (T := TX11) (N := 61) hx hb hts hin11 hown hK hP 0 rfl rfl 16 (Nat.le_of_ble_eq_true rfl) hw_0 (fun _ h9 => h9) rfl dX11_stepOn_167 ?_
        refine lv_iconst (v := 1) hx hb dX11_stepOn_170 ic_1 ?_
        refine lv_iadd hx hb dX11_stepOn_171 ?_
        have b20 : iv 1 700 ((y123_0 2) + 1) := iv_add b13 ivk_1 (by decide) (by decide) (by decide) (by decide)
        have t21 : ((y123_0 2) + 1).toInt = (y123_0 2).toInt + 1 := iv_addc b13 (by decide) (by decide) (by decide)
        refine va_put (D := (dC, dI)) (ci := 11) (v := .int ((y123_0 2) + 1)) (ty := .int) (C := RX11) (T := TX11) (N := 61) hx hb hts hin11 tyX11 tyX11_ok nmX11 hown hK hP hD hS 0 rfl rfl 16 (by decide) hw_0 (fun _ h9 => h9) rfl (by decide +kernel) rfl rfl (Nat.le_of_ble_eq_true rfl) dX11_stepOn_172 (fun H locs hPa hDa hS => ?_)
        clear hP hD
        have hP : va_P (dC, dI) vwCl [(m0, .inr (11, oX11 ra (upd (upd y123_0 5 z18) 2 ((y123_0 2) + 1)))), (ra 13, .inl (kI, 700, .inl q_tape))] H := hPa
        have hD : va_D A [(m0, .inr (11, oX11 ra (upd (upd y123_0 5 z18) 2 ((y123_0 2) + 1)))), (ra 13, .inl (kI, 700, .inl q_tape))] := hDa
        clear hPa hDa
        refine lv_goto (tgt := 123) hx hb dX11_stepOn_175 rfl ?_
        exact ih123 (upd (upd y123_0 5 z18) 2 ((y123_0 2) + 1)) v123_loc1 _ _ _ (ms_up (c := 1) (d := 0) b13 hm123 (by decide) (iv_addc b13 (by decide) (by decide) (by decide)) (by decide) rfl) ((fI_u (fI_u hI123_0 (k := 5) ((iv_t z18))) (k := 2) ((iv_w b20 (by decide) (by decide))))) (h123_2) (h123_3) ((show (x0 2).toInt + 1 ≤ ((y123_0 2) + 1).toInt ∨ ¬ isDg (byA q_tape (x0 3) ((y123_0 2) + 1)) = 0 from Or.inl (by have q := hat_123; omega))) ((by subst hTQ; exact rs_123s hRr hk_123 (iv_w h123_3 (by decide) (by decide)) (iv_w b13 (by decide) (by decide)) c8 e19)) ((show (x0 2).toInt ≤ ((y123_0 2) + 1).toInt from by omega)) ((show y123_0 3 = x0 3 from hts_123)) ((show y123_0 1 = x0 1 from htp_123)) ((show y123_0 10 = x0 10 from hfp_123)) ((show y123_0 23 = x0 23 from hhm_123)) (hP) (hD) hS (lv_sub hl [0, 1] rfl)
  have hJ76 : ∀ (n : Nat) (y76_0 : Nat → Int32) (v76_loc1 : Int32) (H : Heap) (locs : List Loc) (ls : Array Slot), (700 - (y76_0 2).toInt).toNat < n → fI lX11 hX11 y76_0 → iv 97 122 v76_loc1 → iv 0 699 (y76_0 6) → ((x0 2).toInt + 1 ≤ (y76_0 2).toInt ∨ ¬ isLt (byA q_tape (x0 3) (y76_0 2)) = 0) → (R76 tT nN x0 y76_0) → ((x0 2).toInt ≤ (y76_0 2).toInt) → (y76_0 3 = x0 3) → (y76_0 1 = x0 1) → (y76_0 10 = x0 10) → (y76_0 23 = x0 23) → va_P (dC, dI) vwCl [(m0, .inr (11, oX11 ra y76_0)), (ra 13, .inl (kI, 700, .inl q_tape))] H → va_D A [(m0, .inr (11, oX11 ra y76_0)), (ra 13, .inl (kI, 700, .inl q_tape))] → va_S A s.heap H locs → lv_has ls 2 [(0, .ref m0), (1, .int v76_loc1)] → W p l e (headSpec wsX11_stepOn rm_s11_stepOn).room s m args0 below meth c H locs (0) (0) (MQ below (va_Qv (fun (_ : Unit) => True) (fun _ t => ∃ (x0' : Nat → Int32), fI lX11 hX11 x0' ∧ ((x0 2).toInt ≤ (x0' 2).toInt) ∧ (x0' 3 = x0 3) ∧ (x0' 4 = 0 ∨ (x0 2).toInt + 1 ≤ (x0' 2).toInt) ∧ (RRd tT nN x0' (uS)) ∧ (x0' 1 = x0 1) ∧ (x0' 10 = x0 10) ∧ (x0' 23 = x0 23) ∧ va_P (dC, dI) vwCl [(m0, .inr (11, oX11 ra x0')), (ra 13, .inl (kI, 700, .inl q_tape))] t.heap ∧ va_D A [(m0, .inr (11, oX11 ra x0')), (ra 13, .inl (kI, 700, .inl q_tape))]) A) args0 s 0 0 A) (F0 m 76 ls []) := by
    intro n
    induction n with
    | zero => intro y76_0 v76_loc1 H locs ls hm76; exact absurd hm76 (Nat.not_lt_zero _)
    | succ n ih76 =>
      intro y76_0 v76_loc1 H locs ls hm76 hI76_0 h76_2 h76_3 hsx_76 hk_76 hat_76 hts_76 htp_76 hfp_76 hhm_76 hP hD hS hl
      refine lv_aload_n hx hb dX11_stepOn_76 rfl (lv_at hl 0 rfl) ?_
      refine lv_aload_n hx hb dX11_stepOn_77 rfl (lv_at hl 0 rfl) ?_
      refine va_get (D := (dC, dI)) (ci := 11) (v := .int (y76_0 2)) (C := RX11) (T := TX11) (N := 61) hx hb hts hin11 hown hK hP 0 rfl rfl 16 (Nat.le_of_ble_eq_true rfl) hw_0 (fun _ h9 => h9) rfl dX11_stepOn_78 ?_
      obtain ⟨hPc, hDc, hFc, hJn⟩ := cl_a (wc := [(m0, .inr (11, oX11 ra y76_0)), (ra 13, .inl (kI, 700, .inl q_tape))]) (wr := []) hP hD hS hA [0, 1] [] rfl rfl (by decide +kernel)
      refine va_calli (va_runV (As := [.int (y76_0 2)]) (rest := []) ⟨hx, hb, hml, hown, hts⟩ (s11_byteAt l dC dI kB kI kJ kZ kC kS H.size m0 ra y76_0 q_tape (y76_0 2) (hI76_0) (hq_tape) ((hI76_0 2 : iv 0 700 (y76_0 2)))) (cwV 1 hts gX11_stepOn_X11_byteAt rfl rfl rfl (by decide +kernel) ⟨Nat.le_of_ble_eq_true rfl, Nat.le_of_ble_eq_true rfl⟩) ⟨fun a U g mk q => by obtain ⟨q0, q1, qP, qE, qD⟩ := q; exact ⟨q0, q1, qP, kE_call qE, qD⟩, va_recv hK hP (ci := 11) (q0 := 0) rfl rfl, fun U hU hW => ⟨rfl, by rw [hU], by rw [hU]; exact hPc, kE_warm hW hE, hDc.weaken (fun _ _ _ _ => trivial)⟩⟩ rfl rfl hl.1 rfl (lv_room (Nat.le_of_ble_eq_true rfl)) dX11_stepOn_81 ⟨Nat.le_of_ble_eq_true rfl, Nat.le_of_ble_eq_true rfl⟩) hS (fun q _ h => hFc q h) hFc (fun r22 u t H locs ht hvm w23 hB hz1 hk1 hS => ?_)
      obtain ⟨hq24, hP1, hD1⟩ := hB
      try dsimp only at w23
      obtain ⟨hPa, hDa⟩ := hJn (w1 := [(m0, .inr (11, oX11 ra y76_0)), (ra 13, .inl (kI, 700, .inl q_tape))]) hk1 ht hP1 hD1
      clear hP hD hPc hDc hFc hJn hP1 hD1 hk1
      have hP : va_P (dC, dI) vwCl [(m0, .inr (11, oX11 ra y76_0)), (ra 13, .inl (kI, 700, .inl q_tape))] H := hPa
      have hD : va_D A [(m0, .inr (11, oX11 ra y76_0)), (ra 13, .inl (kI, 700, .inl q_tape))] := hDa
      clear hPa hDa
      refine W.widen (k := 0) (n := 0) (Nat.le_of_ble_eq_true rfl) (Nat.le_of_ble_eq_true rfl) ?_
      obtain ⟨w23, b25⟩ := w23
      subst w23
      obtain ⟨hPc, hDc, hFc, hJn⟩ := cl_a (wc := []) (wr := [(m0, .inr (11, oX11 ra y76_0)), (ra 13, .inl (kI, 700, .inl q_tape))]) hP hD hS hA [] [0, 1] rfl rfl (by decide +kernel)
      refine va_calli (va_runS (As := [.int (byA q_tape (y76_0 3) (y76_0 2))]) (rest := []) ⟨hx, hb, hml, hown, hts⟩ (s11_isLetter l dC dI kB kI kJ kZ kC kS H.size (byA q_tape (y76_0 3) (y76_0 2))) (va_cwS 1 hts gX11_stepOn_X11_isLetter rfl rfl rfl (by decide +kernel) ⟨Nat.le_of_ble_eq_true rfl, Nat.le_of_ble_eq_true rfl⟩) ⟨fun a U g mk q => by obtain ⟨q0, q1, qP, qE, qD⟩ := q; exact ⟨q0, q1, qP, kE_call qE, qD⟩, fun U hU hW => ⟨rfl, by rw [hU], by rw [hU]; exact hPc, kE_warm hW hE, hDc.weaken (fun _ _ _ _ => trivial)⟩⟩ rfl rfl hl.1 rfl (lv_room (Nat.le_of_ble_eq_true rfl)) dX11_stepOn_84 ⟨Nat.le_of_ble_eq_true rfl, Nat.le_of_ble_eq_true rfl⟩) hS (fun q _ h => hFc q h) hFc (fun r26 u t H locs ht hvm w27 hB hz1 hk1 hS => ?_)
      obtain ⟨hP1, hD1⟩ := hB
      try dsimp only at w27
      obtain ⟨hPa, hDa⟩ := hJn (w1 := []) hk1 ht hP1 hD1
      clear hP hD hPc hDc hFc hJn hP1 hD1 hk1
      have hP : va_P (dC, dI) vwCl [(m0, .inr (11, oX11 ra y76_0)), (ra 13, .inl (kI, 700, .inl q_tape))] H := hPa
      have hD : va_D A [(m0, .inr (11, oX11 ra y76_0)), (ra 13, .inl (kI, 700, .inl q_tape))] := hDa
      clear hPa hDa
      refine W.widen (k := 0) (n := 0) (Nat.le_of_ble_eq_true rfl) (Nat.le_of_ble_eq_true rfl) ?_
      obtain ⟨w27, b28⟩ := w27
      subst w27
      refine lv_if_eq (tgt := 103) hx hb dX11_stepOn_87 rfl (fun c29 => ?_) (fun c29 => ?_)
      · have b30 : iv 0 0 (isLt (byA q_tape (y76_0 3) (y76_0 2))) := iv_eqL c29 ivk_0
        have hst31 : (x0 2).toInt + 1 ≤ (y76_0 2).toInt := hsx_76.resolve_right (fun w => w (by have q := c29; rw [hts_76] at q; exact q))
        refine lv_aload_n hx hb dX11_stepOn_103 rfl (lv_at hl 0 rfl) ?_
        refine lv_iconst (v := 1) hx hb dX11_stepOn_104 ic_1 ?_
        refine va_put (D := (dC, dI)) (ci := 11) (v := .int 1) (ty := .int) (C := RX11) (T := TX11) (N := 61) hx hb hts hin11 tyX11 tyX11_ok nmX11 hown hK hP hD hS 0 rfl rfl 18 (by decide) hw_1 (fun _ h9 => h9) rfl (by decide +kernel) rfl rfl (Nat.le_of_ble_eq_true rfl) dX11_stepOn_105 (fun H locs hPa hDa hS => ?_)
        clear hP hD
        have hP : va_P (dC, dI) vwCl [(m0, .inr (11, oX11 ra (upd y76_0 4 1))), (ra 13, .inl (kI, 700, .inl q_tape))] H := hPa
        have hD : va_D A [(m0, .inr (11, oX11 ra (upd y76_0 4 1))), (ra 13, .inl (kI, 700, .inl q_tape))] := hDa
        clear hPa hDa
        refine lv_goto (tgt := 211) hx hb dX11_stepOn_108 rfl ?_
        refine lv_aload_n hx hb dX11_stepOn_211 rfl (lv_at hl 0 rfl) ?_
        refine lv_aload_n hx hb dX11_stepOn_212 rfl (lv_at hl 0 rfl) ?_
        refine va_get (D := (dC, dI)) (ci := 11) (v := .int (y76_0 2)) (C := RX11) (T := TX11) (N := 61) hx hb hts hin11 hown hK hP 0 rfl rfl 16 (Nat.le_of_ble_eq_true rfl) hw_0 (fun _ h9 => h9) rfl dX11_stepOn_213 ?_
        refine va_put (D := (dC, dI)) (ci := 11) (v := .int (y76_0 2)) (ty := .int) (C := RX11) (T := TX11) (N := 61) hx hb hts hin11 tyX11 tyX11_ok nmX11 hown hK hP hD hS 0 rfl rfl 21 (by decide) hw_2 (fun _ h9 => h9) rfl (by decide +kernel) rfl rfl (Nat.le_of_ble_eq_true rfl) dX11_stepOn_216 (fun H locs hPa hDa hS => ?_)
        clear hP hD
        have hP : va_P (dC, dI) vwCl [(m0, .inr (11, oX11 ra (upd (upd y76_0 4 1) 7 (y76_0 2)))), (ra 13, .inl (kI, 700, .inl q_tape))] H := hPa
        have hD : va_D A [(m0, .inr (11, oX11 ra (upd (upd y76_0 4 1) 7 (y76_0 2)))), (ra 13, .inl (kI, 700, .inl q_tape))] := hDa
        clear hPa hDa
        have hP9 := hP
        have hD9 := hD
        exact W.vret hx hb hr (fun t ht hW => ⟨⟨(), rfl, trivial, upd (upd y76_0 4 1) 7 (y76_0 2), (fI_u (fI_u hI76_0 (k := 4) ((iv_w ivk_1 (by decide) (by decide)))) (k := 7) ((hI76_0 2 : iv 0 700 (y76_0 2)))), (show (x0 2).toInt ≤ (y76_0 2).toInt from by omega), (show y76_0 3 = x0 3 from hts_76), (show 1 = 0 ∨ (x0 2).toInt + 1 ≤ (y76_0 2).toInt from Or.inr (by omega)), (by subst hTQ; exact rs_w hRr hSt (hX 2 : iv 0 700 (x0 2)) hk_76 (iv_w h76_3 (by decide) (by decide)) (hI76_0 2 : iv 0 700 (y76_0 2)) c29), (show y76_0 1 = x0 1 from htp_76), (show y76_0 10 = x0 10 from hfp_76), (show y76_0 23 = x0 23 from hhm_76), by rw [ht]; exact hP9, hD9⟩, hS.F ht⟩) hS.2.2 dX11_stepOn_219
      · have b32 : iv 1 1 (isLt (byA q_tape (y76_0 3) (y76_0 2))) := iv_neLo c29 b28 ivk_0 (by decide) (by decide)
        have b33 : iv 97 122 (byA q_tape (y76_0 3) (y76_0 2)) := isLt_iv (iv_ne b32 ivk_0 (by decide))
        have b34 : iv 0 699 (y76_0 2) := (hq24).resolve_left (iv_ne b33 ivk_m1 (by decide))
        refine lv_aload_n hx hb dX11_stepOn_90 rfl (lv_at hl 0 rfl) ?_
        refine lv_dup hx hb dX11_stepOn_91 rfl ?_
        refine va_get (D := (dC, dI)) (ci := 11) (v := .int (y76_0 2)) (C := RX11) (T := TX11) (N := 61) hx hb hts hin11 hown hK hP 0 rfl rfl 16 (Nat.le_of_ble_eq_true rfl) hw_0 (fun _ h9 => h9) rfl dX11_stepOn_92 ?_
        refine lv_iconst (v := 1) hx hb dX11_stepOn_95 ic_1 ?_
        refine lv_iadd hx hb dX11_stepOn_96 ?_
        have b35 : iv 1 700 ((y76_0 2) + 1) := iv_add b34 ivk_1 (by decide) (by decide) (by decide) (by decide)
        have t36 : ((y76_0 2) + 1).toInt = (y76_0 2).toInt + 1 := iv_addc b34 (by decide) (by decide) (by decide)
        refine va_put (D := (dC, dI)) (ci := 11) (v := .int ((y76_0 2) + 1)) (ty := .int) (C := RX11) (T := TX11) (N := 61) hx hb hts hin11 tyX11 tyX11_ok nmX11 hown hK hP hD hS 0 rfl rfl 16 (by decide) hw_0 (fun _ h9 => h9) rfl (by decide +kernel) rfl rfl (Nat.le_of_ble_eq_true rfl) dX11_stepOn_97 (fun H locs hPa hDa hS => ?_)
        clear hP hD
        have hP : va_P (dC, dI) vwCl [(m0, .inr (11, oX11 ra (upd y76_0 2 ((y76_0 2) + 1)))), (ra 13, .inl (kI, 700, .inl q_tape))] H := hPa
        have hD : va_D A [(m0, .inr (11, oX11 ra (upd y76_0 2 ((y76_0 2) + 1)))), (ra 13, .inl (kI, 700, .inl q_tape))] := hDa
        clear hPa hDa
        refine lv_goto (tgt := 76) hx hb dX11_stepOn_100 rfl ?_
        exact ih76 (upd y76_0 2 ((y76_0 2) + 1)) v76_loc1 _ _ _ (ms_up (c := 1) (d := 0) b34 hm76 (by decide) (iv_addc b34 (by decide) (by decide) (by decide)) (by decide) rfl) ((fI_u hI76_0 (k := 2) ((iv_w b35 (by decide) (by decide))))) (h76_2) (h76_3) ((show (x0 2).toInt + 1 ≤ ((y76_0 2) + 1).toInt ∨ ¬ isLt (byA q_tape (x0 3) ((y76_0 2) + 1)) = 0 from Or.inl (by have q := hat_76; omega))) ((by subst hTQ; exact rs_76s hRr hk_76 (iv_w b34 (by decide) (by decide)) c29)) ((show (x0 2).toInt ≤ ((y76_0 2) + 1).toInt from by omega)) ((show y76_0 3 = x0 3 from hts_76)) ((show y76_0 1 = x0 1 from htp_76)) ((show y76_0 10 = x0 10 from hfp_76)) ((show y76_0 23 = x0 23 from hhm_76)) (hP) (hD) hS (lv_sub hl [0, 1] rfl)
  have hJ0 : ∀ (n : Nat) (y0_0 : Nat → Int32) (H : Heap) (locs : List Loc) (ls : Array Slot), (700 - (y0_0 2).toInt).toNat < n → fI lX11 hX11 y0_0 → (R0 tT nN x0 y0_0) → ((x0 2).toInt ≤ (y0_0 2).toInt) → (y0_0 3 = x0 3) → (y0_0 1 = x0 1) → (y0_0 10 = x0 10) → (y0_0 23 = x0 23) → va_P (dC, dI) vwCl [(m0, .inr (11, oX11 ra y0_0)), (ra 13, .inl (kI, 700, .inl q_tape))] H → va_D A [(m0, .inr (11, oX11 ra y0_0)), (ra 13, .inl (kI, 700, .inl q_tape))] → va_S A s.heap H locs → lv_has ls 2 [(0, .ref m0)] → W p l e (headSpec wsX11_stepOn rm_s11_stepOn).room s m args0 below meth c H locs (0) (0) (MQ below (va_Qv (fun (_ : Unit) => True) (fun _ t => ∃ (x0' : Nat → Int32), fI lX11 hX11 x0' ∧ ((x0 2).toInt ≤ (x0' 2).toInt) ∧ (x0' 3 = x0 3) ∧ (x0' 4 = 0 ∨ (x0 2).toInt + 1 ≤ (x0' 2).toInt) ∧ (RRd tT nN x0' (uS)) ∧ (x0' 1 = x0 1) ∧ (x0' 10 = x0 10) ∧ (x0' 23 = x0 23) ∧ va_P (dC, dI) vwCl [(m0, .inr (11, oX11 ra x0')), (ra 13, .inl (kI, 700, .inl q_tape))] t.heap ∧ va_D A [(m0, .inr (11, oX11 ra x0')), (ra 13, .inl (kI, 700, .inl q_tape))]) A) args0 s 0 0 A) (F0 m 0 ls []) := by
    intro n
    induction n with
    | zero => intro y0_0 H locs ls hm0; exact absurd hm0 (Nat.not_lt_zero _)
    | succ n ih0 =>
      intro y0_0 H locs ls hm0 hI0_0 hk_0 hat_0 hts_0 htp_0 hfp_0 hhm_0 hP hD hS hl
      refine lv_aload_n hx hb dX11_stepOn_0 rfl (lv_at hl 0 rfl) ?_
      refine lv_aload_n hx hb dX11_stepOn_1 rfl (lv_at hl 0 rfl) ?_
      refine va_get (D := (dC, dI)) (ci := 11) (v := .int (y0_0 2)) (C := RX11) (T := TX11) (N := 61) hx hb hts hin11 hown hK hP 0 rfl rfl 16 (Nat.le_of_ble_eq_true rfl) hw_0 (fun _ h9 => h9) rfl dX11_stepOn_2 ?_
      obtain ⟨hPc, hDc, hFc, hJn⟩ := cl_a (wc := [(m0, .inr (11, oX11 ra y0_0)), (ra 13, .inl (kI, 700, .inl q_tape))]) (wr := []) hP hD hS hA [0, 1] [] rfl rfl (by decide +kernel)
      refine va_calli (va_runV (As := [.int (y0_0 2)]) (rest := []) ⟨hx, hb, hml, hown, hts⟩ (s11_byteAt l dC dI kB kI kJ kZ kC kS H.size m0 ra y0_0 q_tape (y0_0 2) (hI0_0) (hq_tape) ((hI0_0 2 : iv 0 700 (y0_0 2)))) (cwV 1 hts gX11_stepOn_X11_byteAt rfl rfl rfl (by decide +kernel) ⟨Nat.le_of_ble_eq_true rfl, Nat.le_of_ble_eq_true rfl⟩) ⟨fun a U g mk q => by obtain ⟨q0, q1, qP, qE, qD⟩ := q; exact ⟨q0, q1, qP, kE_call qE, qD⟩, va_recv hK hP (ci := 11) (q0 := 0) rfl rfl, fun U hU hW => ⟨rfl, by rw [hU], by rw [hU]; exact hPc, kE_warm hW hE, hDc.weaken (fun _ _ _ _ => trivial)⟩⟩ rfl rfl hl.1 rfl (lv_room (Nat.le_of_ble_eq_true rfl)) dX11_stepOn_5 ⟨Nat.le_of_ble_eq_true rfl, Nat.le_of_ble_eq_true rfl⟩) hS (fun q _ h => hFc q h) hFc (fun r37 u t H locs ht hvm w38 hB hz1 hk1 hS => ?_)
      obtain ⟨hq39, hP1, hD1⟩ := hB
      try dsimp only at w38
      obtain ⟨hPa, hDa⟩ := hJn (w1 := [(m0, .inr (11, oX11 ra y0_0)), (ra 13, .inl (kI, 700, .inl q_tape))]) hk1 ht hP1 hD1
      clear hP hD hPc hDc hFc hJn hP1 hD1 hk1
      have hP : va_P (dC, dI) vwCl [(m0, .inr (11, oX11 ra y0_0)), (ra 13, .inl (kI, 700, .inl q_tape))] H := hPa
      have hD : va_D A [(m0, .inr (11, oX11 ra y0_0)), (ra 13, .inl (kI, 700, .inl q_tape))] := hDa
      clear hPa hDa
      refine W.widen (k := 0) (n := 0) (Nat.le_of_ble_eq_true rfl) (Nat.le_of_ble_eq_true rfl) ?_
      obtain ⟨w38, b40⟩ := w38
      subst w38
      refine lv_bipush (v := 32) hx hb dX11_stepOn_8 bp_32 ?_
      refine lv_icmp_eq (tgt := 26) hx hb dX11_stepOn_10 rfl (fun c41 => ?_) (fun c41 => ?_)
      · have b42 : iv 32 32 (byA q_tape (y0_0 3) (y0_0 2)) := iv_eqL c41 ivk_32
        have b43 : iv 0 699 (y0_0 2) := (hq39).resolve_left (iv_ne b42 ivk_m1 (by decide))
        refine lv_aload_n hx hb dX11_stepOn_26 rfl (lv_at hl 0 rfl) ?_
        refine lv_dup hx hb dX11_stepOn_27 rfl ?_
        refine va_get (D := (dC, dI)) (ci := 11) (v := .int (y0_0 2)) (C := RX11) (T := TX11) (N := 61) hx hb hts hin11 hown hK hP 0 rfl rfl 16 (Nat.le_of_ble_eq_true rfl) hw_0 (fun _ h9 => h9) rfl dX11_stepOn_28 ?_
        refine lv_iconst (v := 1) hx hb dX11_stepOn_31 ic_1 ?_
        refine lv_iadd hx hb dX11_stepOn_32 ?_
        have b44 : iv 1 700 ((y0_0 2) + 1) := iv_add b43 ivk_1 (by decide) (by decide) (by decide) (by decide)
        have t45 : ((y0_0 2) + 1).toInt = (y0_0 2).toInt + 1 := iv_addc b43 (by decide) (by decide) (by decide)
        refine va_put (D := (dC, dI)) (ci := 11) (v := .int ((y0_0 2) + 1)) (ty := .int) (C := RX11) (T := TX11) (N := 61) hx hb hts hin11 tyX11 tyX11_ok nmX11 hown hK hP hD hS 0 rfl rfl 16 (by decide) hw_0 (fun _ h9 => h9) rfl (by decide +kernel) rfl rfl (Nat.le_of_ble_eq_true rfl) dX11_stepOn_33 (fun H locs hPa hDa hS => ?_)
        clear hP hD
        have hP : va_P (dC, dI) vwCl [(m0, .inr (11, oX11 ra (upd y0_0 2 ((y0_0 2) + 1)))), (ra 13, .inl (kI, 700, .inl q_tape))] H := hPa
        have hD : va_D A [(m0, .inr (11, oX11 ra (upd y0_0 2 ((y0_0 2) + 1)))), (ra 13, .inl (kI, 700, .inl q_tape))] := hDa
        clear hPa hDa
        refine lv_goto (tgt := 0) hx hb dX11_stepOn_36 rfl ?_
        exact ih0 (upd y0_0 2 ((y0_0 2) + 1)) _ _ _ (ms_up (c := 1) (d := 0) b43 hm0 (by decide) (iv_addc b43 (by decide) (by decide) (by decide)) (by decide) rfl) ((fI_u hI0_0 (k := 2) ((iv_w b44 (by decide) (by decide))))) ((by subst hTQ; exact rs_bl hRr hk_0 (iv_w b43 (by decide) (by decide)) (Or.inl c41))) ((show (x0 2).toInt ≤ ((y0_0 2) + 1).toInt from by omega)) ((show y0_0 3 = x0 3 from hts_0)) ((show y0_0 1 = x0 1 from htp_0)) ((show y0_0 10 = x0 10 from hfp_0)) ((show y0_0 23 = x0 23 from hhm_0)) (hP) (hD) hS (lv_sub hl [0] rfl)
      · refine lv_aload_n hx hb dX11_stepOn_13 rfl (lv_at hl 0 rfl) ?_
        refine lv_aload_n hx hb dX11_stepOn_14 rfl (lv_at hl 0 rfl) ?_
        refine va_get (D := (dC, dI)) (ci := 11) (v := .int (y0_0 2)) (C := RX11) (T := TX11) (N := 61) hx hb hts hin11 hown hK hP 0 rfl rfl 16 (Nat.le_of_ble_eq_true rfl) hw_0 (fun _ h9 => h9) rfl dX11_stepOn_15 ?_
        obtain ⟨hPc, hDc, hFc, hJn⟩ := cl_a (wc := [(m0, .inr (11, oX11 ra y0_0)), (ra 13, .inl (kI, 700, .inl q_tape))]) (wr := []) hP hD hS hA [0, 1] [] rfl rfl (by decide +kernel)
        refine va_calli (va_runV (As := [.int (y0_0 2)]) (rest := []) ⟨hx, hb, hml, hown, hts⟩ (s11_byteAt l dC dI kB kI kJ kZ kC kS H.size m0 ra y0_0 q_tape (y0_0 2) (hI0_0) (hq_tape) ((hI0_0 2 : iv 0 700 (y0_0 2)))) (cwV 1 hts gX11_stepOn_X11_byteAt rfl rfl rfl (by decide +kernel) ⟨Nat.le_of_ble_eq_true rfl, Nat.le_of_ble_eq_true rfl⟩) ⟨fun a U g mk q => by obtain ⟨q0, q1, qP, qE, qD⟩ := q; exact ⟨q0, q1, qP, kE_call qE, qD⟩, va_recv hK hP (ci := 11) (q0 := 0) rfl rfl, fun U hU hW => ⟨rfl, by rw [hU], by rw [hU]; exact hPc, kE_warm hW hE, hDc.weaken (fun _ _ _ _ => trivial)⟩⟩ rfl rfl hl.1 rfl (lv_room (Nat.le_of_ble_eq_true rfl)) dX11_stepOn_18 ⟨Nat.le_of_ble_eq_true rfl, Nat.le_of_ble_eq_true rfl⟩) hS (fun q _ h => hFc q h) hFc (fun r46 u t H locs ht hvm w47 hB hz1 hk1 hS => ?_)
        obtain ⟨hq48, hP1, hD1⟩ := hB
        try dsimp only at w47
        obtain ⟨hPa, hDa⟩ := hJn (w1 := [(m0, .inr (11, oX11 ra y0_0)), (ra 13, .inl (kI, 700, .inl q_tape))]) hk1 ht hP1 hD1
        clear hP hD hPc hDc hFc hJn hP1 hD1 hk1
        have hP : va_P (dC, dI) vwCl [(m0, .inr (11, oX11 ra y0_0)), (ra 13, .inl (kI, 700, .inl q_tape))] H := hPa
        have hD : va_D A [(m0, .inr (11, oX11 ra y0_0)), (ra 13, .inl (kI, 700, .inl q_tape))] := hDa
        clear hPa hDa
        refine W.widen (k := 0) (n := 0) (Nat.le_of_ble_eq_true rfl) (Nat.le_of_ble_eq_true rfl) ?_
        obtain ⟨w47, b49⟩ := w47
        subst w47
        refine lv_bipush (v := 10) hx hb dX11_stepOn_21 bp_10 ?_
        refine lv_icmp_ne (tgt := 39) hx hb dX11_stepOn_23 rfl (fun c50 => ?_) (fun c50 => ?_)
        · refine lv_aload_n hx hb dX11_stepOn_39 rfl (lv_at hl 0 rfl) ?_
          refine lv_aload_n hx hb dX11_stepOn_40 rfl (lv_at hl 0 rfl) ?_
          refine va_get (D := (dC, dI)) (ci := 11) (v := .int (y0_0 2)) (C := RX11) (T := TX11) (N := 61) hx hb hts hin11 hown hK hP 0 rfl rfl 16 (Nat.le_of_ble_eq_true rfl) hw_0 (fun _ h9 => h9) rfl dX11_stepOn_41 ?_
          refine va_put (D := (dC, dI)) (ci := 11) (v := .int (y0_0 2)) (ty := .int) (C := RX11) (T := TX11) (N := 61) hx hb hts hin11 tyX11 tyX11_ok nmX11 hown hK hP hD hS 0 rfl rfl 20 (by decide) hw_9 (fun _ h9 => h9) rfl (by decide +kernel) rfl rfl (Nat.le_of_ble_eq_true rfl) dX11_stepOn_44 (fun H locs hPa hDa hS => ?_)
          clear hP hD
          have hP : va_P (dC, dI) vwCl [(m0, .inr (11, oX11 ra (upd y0_0 6 (y0_0 2)))), (ra 13, .inl (kI, 700, .inl q_tape))] H := hPa
          have hD : va_D A [(m0, .inr (11, oX11 ra (upd y0_0 6 (y0_0 2)))), (ra 13, .inl (kI, 700, .inl q_tape))] := hDa
          clear hPa hDa
          refine lv_aload_n hx hb dX11_stepOn_47 rfl (lv_at hl 0 rfl) ?_
          refine lv_aload_n hx hb dX11_stepOn_48 rfl (lv_at hl 0 rfl) ?_
          refine va_get (D := (dC, dI)) (ci := 11) (v := .int (y0_0 2)) (C := RX11) (T := TX11) (N := 61) hx hb hts hin11 hown hK hP 0 rfl rfl 16 (Nat.le_of_ble_eq_true rfl) hw_0 (fun _ h9 => h9) rfl dX11_stepOn_49 ?_
          obtain ⟨hPc, hDc, hFc, hJn⟩ := cl_a (wc := [(m0, .inr (11, oX11 ra (upd y0_0 6 (y0_0 2)))), (ra 13, .inl (kI, 700, .inl q_tape))]) (wr := []) hP hD hS hA [0, 1] [] rfl rfl (by decide +kernel)
          refine va_calli (va_runV (As := [.int (y0_0 2)]) (rest := []) ⟨hx, hb, hml, hown, hts⟩ (s11_byteAt l dC dI kB kI kJ kZ kC kS H.size m0 ra (upd y0_0 6 (y0_0 2)) q_tape (y0_0 2) ((fI_u hI0_0 (k := 6) ((hI0_0 2 : iv 0 700 (y0_0 2))))) (hq_tape) ((hI0_0 2 : iv 0 700 (y0_0 2)))) (cwV 1 hts gX11_stepOn_X11_byteAt rfl rfl rfl (by decide +kernel) ⟨Nat.le_of_ble_eq_true rfl, Nat.le_of_ble_eq_true rfl⟩) ⟨fun a U g mk q => by obtain ⟨q0, q1, qP, qE, qD⟩ := q; exact ⟨q0, q1, qP, kE_call qE, qD⟩, va_recv hK hP (ci := 11) (q0 := 0) rfl rfl, fun U hU hW => ⟨rfl, by rw [hU], by rw [hU]; exact hPc, kE_warm hW hE, hDc.weaken (fun _ _ _ _ => trivial)⟩⟩ rfl rfl hl.1 rfl (lv_room (Nat.le_of_ble_eq_true rfl)) dX11_stepOn_52 ⟨Nat.le_of_ble_eq_true rfl, Nat.le_of_ble_eq_true rfl⟩) hS (fun q _ h => hFc q h) hFc (fun r51 u t H locs ht hvm w52 hB hz1 hk1 hS => ?_)
          obtain ⟨hq53, hP1, hD1⟩ := hB
          try dsimp only at w52
          obtain ⟨hPa, hDa⟩ := hJn (w1 := [(m0, .inr (11, oX11 ra (upd y0_0 6 (y0_0 2)))), (ra 13, .inl (kI, 700, .inl q_tape))]) hk1 ht hP1 hD1
          clear hP hD hPc hDc hFc hJn hP1 hD1 hk1
          have hP : va_P (dC, dI) vwCl [(m0, .inr (11, oX11 ra (upd y0_0 6 (y0_0 2)))), (ra 13, .inl (kI, 700, .inl q_tape))] H := hPa
          have hD : va_D A [(m0, .inr (11, oX11 ra (upd y0_0 6 (y0_0 2)))), (ra 13, .inl (kI, 700, .inl q_tape))] := hDa
          clear hPa hDa
          refine W.widen (k := 0) (n := 0) (Nat.le_of_ble_eq_true rfl) (Nat.le_of_ble_eq_true rfl) ?_
          obtain ⟨w52, b54⟩ := w52
          subst w52
          refine lv_istore_n (lv' := [(1, .int (byA q_tape (y0_0 3) (y0_0 2))), (0, .ref m0)]) hx hb dX11_stepOn_55 rfl hl (Nat.le_of_ble_eq_true rfl) rfl (fun ls hl => ?_)
          refine lv_iload_n hx hb dX11_stepOn_56 rfl (lv_at hl 0 rfl) ?_
          refine lv_iconst (v := (-1)) hx hb dX11_stepOn_57 ic_m1 ?_
          refine lv_icmp_ne (tgt := 69) hx hb dX11_stepOn_58 rfl (fun c55 => ?_) (fun c55 => ?_)
          · have b56 : iv 0 255 (byA q_tape (y0_0 3) (y0_0 2)) := iv_neLo c55 b40 ivk_m1 (by decide) (by decide)
            have b57 : iv 0 699 (y0_0 2) := (hq39).resolve_left (iv_ne b56 ivk_m1 (by decide))
            refine lv_iload_n hx hb dX11_stepOn_69 rfl (lv_at hl 0 rfl) ?_
            obtain ⟨hPc, hDc, hFc, hJn⟩ := cl_a (wc := []) (wr := [(m0, .inr (11, oX11 ra (upd y0_0 6 (y0_0 2)))), (ra 13, .inl (kI, 700, .inl q_tape))]) hP hD hS hA [] [0, 1] rfl rfl (by decide +kernel)
            refine va_calli (va_runS (As := [.int (byA q_tape (y0_0 3) (y0_0 2))]) (rest := []) ⟨hx, hb, hml, hown, hts⟩ (s11_isLetter l dC dI kB kI kJ kZ kC kS H.size (byA q_tape (y0_0 3) (y0_0 2))) (va_cwS 1 hts gX11_stepOn_X11_isLetter rfl rfl rfl (by decide +kernel) ⟨Nat.le_of_ble_eq_true rfl, Nat.le_of_ble_eq_true rfl⟩) ⟨fun a U g mk q => by obtain ⟨q0, q1, qP, qE, qD⟩ := q; exact ⟨q0, q1, qP, kE_call qE, qD⟩, fun U hU hW => ⟨rfl, by rw [hU], by rw [hU]; exact hPc, kE_warm hW hE, hDc.weaken (fun _ _ _ _ => trivial)⟩⟩ rfl rfl hl.1 rfl (lv_room (Nat.le_of_ble_eq_true rfl)) dX11_stepOn_70 ⟨Nat.le_of_ble_eq_true rfl, Nat.le_of_ble_eq_true rfl⟩) hS (fun q _ h => hFc q h) hFc (fun r58 u t H locs ht hvm w59 hB hz1 hk1 hS => ?_)
            obtain ⟨hP1, hD1⟩ := hB
            try dsimp only at w59
            obtain ⟨hPa, hDa⟩ := hJn (w1 := []) hk1 ht hP1 hD1
            clear hP hD hPc hDc hFc hJn hP1 hD1 hk1
            have hP : va_P (dC, dI) vwCl [(m0, .inr (11, oX11 ra (upd y0_0 6 (y0_0 2)))), (ra 13, .inl (kI, 700, .inl q_tape))] H := hPa
            have hD : va_D A [(m0, .inr (11, oX11 ra (upd y0_0 6 (y0_0 2)))), (ra 13, .inl (kI, 700, .inl q_tape))] := hDa
            clear hPa hDa
            refine W.widen (k := 0) (n := 0) (Nat.le_of_ble_eq_true rfl) (Nat.le_of_ble_eq_true rfl) ?_
            obtain ⟨w59, b60⟩ := w59
            subst w59
            refine lv_if_eq (tgt := 111) hx hb dX11_stepOn_73 rfl (fun c61 => ?_) (fun c61 => ?_)
            · have b62 : iv 0 0 (isLt (byA q_tape (y0_0 3) (y0_0 2))) := iv_eqL c61 ivk_0
              refine lv_iload_n hx hb dX11_stepOn_111 rfl (lv_at hl 0 rfl) ?_
              obtain ⟨hPc, hDc, hFc, hJn⟩ := cl_a (wc := []) (wr := [(m0, .inr (11, oX11 ra (upd y0_0 6 (y0_0 2)))), (ra 13, .inl (kI, 700, .inl q_tape))]) hP hD hS hA [] [0, 1] rfl rfl (by decide +kernel)
              refine va_calli (va_runS (As := [.int (byA q_tape (y0_0 3) (y0_0 2))]) (rest := []) ⟨hx, hb, hml, hown, hts⟩ (s11_isDigit l dC dI kB kI kJ kZ kC kS H.size (byA q_tape (y0_0 3) (y0_0 2))) (va_cwS 1 hts gX11_stepOn_X11_isDigit rfl rfl rfl (by decide +kernel) ⟨Nat.le_of_ble_eq_true rfl, Nat.le_of_ble_eq_true rfl⟩) ⟨fun a U g mk q => by obtain ⟨q0, q1, qP, qE, qD⟩ := q; exact ⟨q0, q1, qP, kE_call qE, qD⟩, fun U hU hW => ⟨rfl, by rw [hU], by rw [hU]; exact hPc, kE_warm hW hE, hDc.weaken (fun _ _ _ _ => trivial)⟩⟩ rfl rfl hl.1 rfl (lv_room (Nat.le_of_ble_eq_true rfl)) dX11_stepOn_112 ⟨Nat.le_of_ble_eq_true rfl, Nat.le_of_ble_eq_true rfl⟩) hS (fun q _ h => hFc q h) hFc (fun r63 u t H locs ht hvm w64 hB hz1 hk1 hS => ?_)
              obtain ⟨hP1, hD1⟩ := hB
              try dsimp only at w64
              obtain ⟨hPa, hDa⟩ := hJn (w1 := []) hk1 ht hP1 hD1
              clear hP hD hPc hDc hFc hJn hP1 hD1 hk1
              have hP : va_P (dC, dI) vwCl [(m0, .inr (11, oX11 ra (upd y0_0 6 (y0_0 2)))), (ra 13, .inl (kI, 700, .inl q_tape))] H := hPa
              have hD : va_D A [(m0, .inr (11, oX11 ra (upd y0_0 6 (y0_0 2)))), (ra 13, .inl (kI, 700, .inl q_tape))] := hDa
              clear hPa hDa
              refine W.widen (k := 0) (n := 0) (Nat.le_of_ble_eq_true rfl) (Nat.le_of_ble_eq_true rfl) ?_
              obtain ⟨w64, b65⟩ := w64
              subst w64
              refine lv_if_eq (tgt := 186) hx hb dX11_stepOn_115 rfl (fun c66 => ?_) (fun c66 => ?_)
              · have b67 : iv 0 0 (isDg (byA q_tape (y0_0 3) (y0_0 2))) := iv_eqL c66 ivk_0
                refine lv_aload_n hx hb dX11_stepOn_186 rfl (lv_at hl 1 rfl) ?_
                refine lv_dup hx hb dX11_stepOn_187 rfl ?_
                refine va_get (D := (dC, dI)) (ci := 11) (v := .int (y0_0 2)) (C := RX11) (T := TX11) (N := 61) hx hb hts hin11 hown hK hP 0 rfl rfl 16 (Nat.le_of_ble_eq_true rfl) hw_0 (fun _ h9 => h9) rfl dX11_stepOn_188 ?_
                refine lv_iconst (v := 1) hx hb dX11_stepOn_191 ic_1 ?_
                refine lv_iadd hx hb dX11_stepOn_192 ?_
                have b68 : iv 1 700 ((y0_0 2) + 1) := iv_add b57 ivk_1 (by decide) (by decide) (by decide) (by decide)
                have t69 : ((y0_0 2) + 1).toInt = (y0_0 2).toInt + 1 := iv_addc b57 (by decide) (by decide) (by decide)
                refine va_put (D := (dC, dI)) (ci := 11) (v := .int ((y0_0 2) + 1)) (ty := .int) (C := RX11) (T := TX11) (N := 61) hx hb hts hin11 tyX11 tyX11_ok nmX11 hown hK hP hD hS 0 rfl rfl 16 (by decide) hw_0 (fun _ h9 => h9) rfl (by decide +kernel) rfl rfl (Nat.le_of_ble_eq_true rfl) dX11_stepOn_193 (fun H locs hPa hDa hS => ?_)
                clear hP hD
                have hP : va_P (dC, dI) vwCl [(m0, .inr (11, oX11 ra (upd (upd y0_0 6 (y0_0 2)) 2 ((y0_0 2) + 1)))), (ra 13, .inl (kI, 700, .inl q_tape))] H := hPa
                have hD : va_D A [(m0, .inr (11, oX11 ra (upd (upd y0_0 6 (y0_0 2)) 2 ((y0_0 2) + 1)))), (ra 13, .inl (kI, 700, .inl q_tape))] := hDa
                clear hPa hDa
                refine lv_aload_n hx hb dX11_stepOn_196 rfl (lv_at hl 1 rfl) ?_
                refine lv_iload_n hx hb dX11_stepOn_197 rfl (lv_at hl 0 rfl) ?_
                refine lv_bipush (v := 59) hx hb dX11_stepOn_198 bp_59 ?_
                refine lv_icmp_ne (tgt := 207) hx hb dX11_stepOn_200 rfl (fun c70 => ?_) (fun c70 => ?_)
                · refine lv_iconst (v := 4) hx hb dX11_stepOn_207 ic_4 ?_
                  refine va_put (D := (dC, dI)) (ci := 11) (v := .int 4) (ty := .int) (C := RX11) (T := TX11) (N := 61) hx hb hts hin11 tyX11 tyX11_ok nmX11 hown hK hP hD hS 0 rfl rfl 18 (by decide) hw_1 (fun _ h9 => h9) rfl (by decide +kernel) rfl rfl (Nat.le_of_ble_eq_true rfl) dX11_stepOn_208 (fun H locs hPa hDa hS => ?_)
                  clear hP hD
                  have hP : va_P (dC, dI) vwCl [(m0, .inr (11, oX11 ra (upd (upd (upd y0_0 6 (y0_0 2)) 2 ((y0_0 2) + 1)) 4 4))), (ra 13, .inl (kI, 700, .inl q_tape))] H := hPa
                  have hD : va_D A [(m0, .inr (11, oX11 ra (upd (upd (upd y0_0 6 (y0_0 2)) 2 ((y0_0 2) + 1)) 4 4))), (ra 13, .inl (kI, 700, .inl q_tape))] := hDa
                  clear hPa hDa
                  refine lv_aload_n hx hb dX11_stepOn_211 rfl (lv_at hl 1 rfl) ?_
                  refine lv_aload_n hx hb dX11_stepOn_212 rfl (lv_at hl 1 rfl) ?_
                  refine va_get (D := (dC, dI)) (ci := 11) (v := .int ((y0_0 2) + 1)) (C := RX11) (T := TX11) (N := 61) hx hb hts hin11 hown hK hP 0 rfl rfl 16 (Nat.le_of_ble_eq_true rfl) hw_0 (fun _ h9 => h9) rfl dX11_stepOn_213 ?_
                  refine va_put (D := (dC, dI)) (ci := 11) (v := .int ((y0_0 2) + 1)) (ty := .int) (C := RX11) (T := TX11) (N := 61) hx hb hts hin11 tyX11 tyX11_ok nmX11 hown hK hP hD hS 0 rfl rfl 21 (by decide) hw_2 (fun _ h9 => h9) rfl (by decide +kernel) rfl rfl (Nat.le_of_ble_eq_true rfl) dX11_stepOn_216 (fun H locs hPa hDa hS => ?_)
                  clear hP hD
                  have hP : va_P (dC, dI) vwCl [(m0, .inr (11, oX11 ra (upd (upd (upd (upd y0_0 6 (y0_0 2)) 2 ((y0_0 2) + 1)) 4 4) 7 ((y0_0 2) + 1)))), (ra 13, .inl (kI, 700, .inl q_tape))] H := hPa
                  have hD : va_D A [(m0, .inr (11, oX11 ra (upd (upd (upd (upd y0_0 6 (y0_0 2)) 2 ((y0_0 2) + 1)) 4 4) 7 ((y0_0 2) + 1)))), (ra 13, .inl (kI, 700, .inl q_tape))] := hDa
                  clear hPa hDa
                  have hP9 := hP
                  have hD9 := hD
                  exact W.vret hx hb hr (fun t ht hW => ⟨⟨(), rfl, trivial, upd (upd (upd (upd y0_0 6 (y0_0 2)) 2 ((y0_0 2) + 1)) 4 4) 7 ((y0_0 2) + 1), (fI_u (fI_u (fI_u (fI_u hI0_0 (k := 6) ((iv_w b57 (by decide) (by decide)))) (k := 2) ((iv_w b68 (by decide) (by decide)))) (k := 4) ((iv_w ivk_4 (by decide) (by decide)))) (k := 7) ((iv_w b68 (by decide) (by decide)))), (show (x0 2).toInt ≤ ((y0_0 2) + 1).toInt from by omega), (show y0_0 3 = x0 3 from hts_0), (show 4 = 0 ∨ (x0 2).toInt + 1 ≤ ((y0_0 2) + 1).toInt from Or.inr (by omega)), (by subst hTQ; exact rs_sg hRr hSt (hX 2 : iv 0 700 (x0 2)) (rs_39 hRr hk_0 (iv_w b57 (by decide) (by decide)) c41 c50) c55 c61 c66 (Or.inr ⟨c70, rfl⟩)), (show y0_0 1 = x0 1 from htp_0), (show y0_0 10 = x0 10 from hfp_0), (show y0_0 23 = x0 23 from hhm_0), by rw [ht]; exact hP9, hD9⟩, hS.F ht⟩) hS.2.2 dX11_stepOn_219
                · have b71 : iv 59 59 (byA q_tape (y0_0 3) (y0_0 2)) := iv_eqL c70 ivk_59
                  refine lv_iconst (v := 3) hx hb dX11_stepOn_203 ic_3 ?_
                  refine lv_goto (tgt := 208) hx hb dX11_stepOn_204 rfl ?_
                  refine va_put (D := (dC, dI)) (ci := 11) (v := .int 3) (ty := .int) (C := RX11) (T := TX11) (N := 61) hx hb hts hin11 tyX11 tyX11_ok nmX11 hown hK hP hD hS 0 rfl rfl 18 (by decide) hw_1 (fun _ h9 => h9) rfl (by decide +kernel) rfl rfl (Nat.le_of_ble_eq_true rfl) dX11_stepOn_208 (fun H locs hPa hDa hS => ?_)
                  clear hP hD
                  have hP : va_P (dC, dI) vwCl [(m0, .inr (11, oX11 ra (upd (upd (upd y0_0 6 (y0_0 2)) 2 ((y0_0 2) + 1)) 4 3))), (ra 13, .inl (kI, 700, .inl q_tape))] H := hPa
                  have hD : va_D A [(m0, .inr (11, oX11 ra (upd (upd (upd y0_0 6 (y0_0 2)) 2 ((y0_0 2) + 1)) 4 3))), (ra 13, .inl (kI, 700, .inl q_tape))] := hDa
                  clear hPa hDa
                  refine lv_aload_n hx hb dX11_stepOn_211 rfl (lv_at hl 1 rfl) ?_
                  refine lv_aload_n hx hb dX11_stepOn_212 rfl (lv_at hl 1 rfl) ?_
                  refine va_get (D := (dC, dI)) (ci := 11) (v := .int ((y0_0 2) + 1)) (C := RX11) (T := TX11) (N := 61) hx hb hts hin11 hown hK hP 0 rfl rfl 16 (Nat.le_of_ble_eq_true rfl) hw_0 (fun _ h9 => h9) rfl dX11_stepOn_213 ?_
                  refine va_put (D := (dC, dI)) (ci := 11) (v := .int ((y0_0 2) + 1)) (ty := .int) (C := RX11) (T := TX11) (N := 61) hx hb hts hin11 tyX11 tyX11_ok nmX11 hown hK hP hD hS 0 rfl rfl 21 (by decide) hw_2 (fun _ h9 => h9) rfl (by decide +kernel) rfl rfl (Nat.le_of_ble_eq_true rfl) dX11_stepOn_216 (fun H locs hPa hDa hS => ?_)
                  clear hP hD
                  have hP : va_P (dC, dI) vwCl [(m0, .inr (11, oX11 ra (upd (upd (upd (upd y0_0 6 (y0_0 2)) 2 ((y0_0 2) + 1)) 4 3) 7 ((y0_0 2) + 1)))), (ra 13, .inl (kI, 700, .inl q_tape))] H := hPa
                  have hD : va_D A [(m0, .inr (11, oX11 ra (upd (upd (upd (upd y0_0 6 (y0_0 2)) 2 ((y0_0 2) + 1)) 4 3) 7 ((y0_0 2) + 1)))), (ra 13, .inl (kI, 700, .inl q_tape))] := hDa
                  clear hPa hDa
                  have hP9 := hP
                  have hD9 := hD
                  exact W.vret hx hb hr (fun t ht hW => ⟨⟨(), rfl, trivial, upd (upd (upd (upd y0_0 6 (y0_0 2)) 2 ((y0_0 2) + 1)) 4 3) 7 ((y0_0 2) + 1), (fI_u (fI_u (fI_u (fI_u hI0_0 (k := 6) ((iv_w b57 (by decide) (by decide)))) (k := 2) ((iv_w b68 (by decide) (by decide)))) (k := 4) ((iv_w ivk_3 (by decide) (by decide)))) (k := 7) ((iv_w b68 (by decide) (by decide)))), (show (x0 2).toInt ≤ ((y0_0 2) + 1).toInt from by omega), (show y0_0 3 = x0 3 from hts_0), (show 3 = 0 ∨ (x0 2).toInt + 1 ≤ ((y0_0 2) + 1).toInt from Or.inr (by omega)), (by subst hTQ; exact rs_sg hRr hSt (hX 2 : iv 0 700 (x0 2)) (rs_39 hRr hk_0 (iv_w b57 (by decide) (by decide)) c41 c50) c55 c61 c66 (Or.inl ⟨c70, rfl⟩)), (show y0_0 1 = x0 1 from htp_0), (show y0_0 10 = x0 10 from hfp_0), (show y0_0 23 = x0 23 from hhm_0), by rw [ht]; exact hP9, hD9⟩, hS.F ht⟩) hS.2.2 dX11_stepOn_219
              · have b72 : iv 1 1 (isDg (byA q_tape (y0_0 3) (y0_0 2))) := iv_neLo c66 b65 ivk_0 (by decide) (by decide)
                have b73 : iv 48 57 (byA q_tape (y0_0 3) (y0_0 2)) := isDg_iv (iv_ne b72 ivk_0 (by decide))
                refine lv_aload_n hx hb dX11_stepOn_118 rfl (lv_at hl 1 rfl) ?_
                refine lv_iconst (v := 0) hx hb dX11_stepOn_119 ic_0 ?_
                refine va_put (D := (dC, dI)) (ci := 11) (v := .int 0) (ty := .int) (C := RX11) (T := TX11) (N := 61) hx hb hts hin11 tyX11 tyX11_ok nmX11 hown hK hP hD hS 0 rfl rfl 19 (by decide) hw_4 (fun _ h9 => h9) rfl (by decide +kernel) rfl rfl (Nat.le_of_ble_eq_true rfl) dX11_stepOn_120 (fun H locs hPa hDa hS => ?_)
                clear hP hD
                have hP : va_P (dC, dI) vwCl [(m0, .inr (11, oX11 ra (upd (upd y0_0 6 (y0_0 2)) 5 0))), (ra 13, .inl (kI, 700, .inl q_tape))] H := hPa
                have hD : va_D A [(m0, .inr (11, oX11 ra (upd (upd y0_0 6 (y0_0 2)) 5 0))), (ra 13, .inl (kI, 700, .inl q_tape))] := hDa
                clear hPa hDa
                exact hJ123 _ (upd (upd y0_0 6 (y0_0 2)) 5 0) (byA q_tape (y0_0 3) (y0_0 2)) _ _ _ (Nat.lt_succ_self _) ((fI_u (fI_u hI0_0 (k := 6) ((iv_w b57 (by decide) (by decide)))) (k := 5) ((iv_w ivk_0 (by decide) (by decide))))) (b73) (b57) ((show (x0 2).toInt + 1 ≤ (y0_0 2).toInt ∨ ¬ isDg (byA q_tape (x0 3) (y0_0 2)) = 0 from Or.inr (by have q := c66; rw [hts_0] at q; exact q))) ((by subst hTQ; exact rs_123 hRr (rs_39 hRr hk_0 (iv_w b57 (by decide) (by decide)) c41 c50) (iv_w b57 (by decide) (by decide)) c55 c61 c66)) ((show (x0 2).toInt ≤ (y0_0 2).toInt from by omega)) ((show y0_0 3 = x0 3 from hts_0)) ((show y0_0 1 = x0 1 from htp_0)) ((show y0_0 10 = x0 10 from hfp_0)) ((show y0_0 23 = x0 23 from hhm_0)) (hP) (hD) hS (lv_sub hl [1, 0] rfl)
            · have b74 : iv 1 1 (isLt (byA q_tape (y0_0 3) (y0_0 2))) := iv_neLo c61 b60 ivk_0 (by decide) (by decide)
              have b75 : iv 97 122 (byA q_tape (y0_0 3) (y0_0 2)) := isLt_iv (iv_ne b74 ivk_0 (by decide))
              exact hJ76 _ (upd y0_0 6 (y0_0 2)) (byA q_tape (y0_0 3) (y0_0 2)) _ _ _ (Nat.lt_succ_self _) ((fI_u hI0_0 (k := 6) ((iv_w b57 (by decide) (by decide))))) (b75) (b57) ((show (x0 2).toInt + 1 ≤ (y0_0 2).toInt ∨ ¬ isLt (byA q_tape (x0 3) (y0_0 2)) = 0 from Or.inr (by have q := c61; rw [hts_0] at q; exact q))) ((by subst hTQ; exact rs_76 hRr (rs_39 hRr hk_0 (iv_w b57 (by decide) (by decide)) c41 c50) c55 c61)) ((show (x0 2).toInt ≤ (y0_0 2).toInt from by omega)) ((show y0_0 3 = x0 3 from hts_0)) ((show y0_0 1 = x0 1 from htp_0)) ((show y0_0 10 = x0 10 from hfp_0)) ((show y0_0 23 = x0 23 from hhm_0)) (hP) (hD) hS (lv_sub hl [1, 0] rfl)
          · have b76 : iv (-1) (-1) (byA q_tape (y0_0 3) (y0_0 2)) := iv_eqL c55 ivk_m1
            refine lv_aload_n hx hb dX11_stepOn_61 rfl (lv_at hl 1 rfl) ?_
            refine lv_iconst (v := 0) hx hb dX11_stepOn_62 ic_0 ?_
            refine va_put (D := (dC, dI)) (ci := 11) (v := .int 0) (ty := .int) (C := RX11) (T := TX11) (N := 61) hx hb hts hin11 tyX11 tyX11_ok nmX11 hown hK hP hD hS 0 rfl rfl 18 (by decide) hw_1 (fun _ h9 => h9) rfl (by decide +kernel) rfl rfl (Nat.le_of_ble_eq_true rfl) dX11_stepOn_63 (fun H locs hPa hDa hS => ?_)
            clear hP hD
            have hP : va_P (dC, dI) vwCl [(m0, .inr (11, oX11 ra (upd (upd y0_0 6 (y0_0 2)) 4 0))), (ra 13, .inl (kI, 700, .inl q_tape))] H := hPa
            have hD : va_D A [(m0, .inr (11, oX11 ra (upd (upd y0_0 6 (y0_0 2)) 4 0))), (ra 13, .inl (kI, 700, .inl q_tape))] := hDa
            clear hPa hDa
            refine lv_goto (tgt := 211) hx hb dX11_stepOn_66 rfl ?_
            refine lv_aload_n hx hb dX11_stepOn_211 rfl (lv_at hl 1 rfl) ?_
            refine lv_aload_n hx hb dX11_stepOn_212 rfl (lv_at hl 1 rfl) ?_
            refine va_get (D := (dC, dI)) (ci := 11) (v := .int (y0_0 2)) (C := RX11) (T := TX11) (N := 61) hx hb hts hin11 hown hK hP 0 rfl rfl 16 (Nat.le_of_ble_eq_true rfl) hw_0 (fun _ h9 => h9) rfl dX11_stepOn_213 ?_
            refine va_put (D := (dC, dI)) (ci := 11) (v := .int (y0_0 2)) (ty := .int) (C := RX11) (T := TX11) (N := 61) hx hb hts hin11 tyX11 tyX11_ok nmX11 hown hK hP hD hS 0 rfl rfl 21 (by decide) hw_2 (fun _ h9 => h9) rfl (by decide +kernel) rfl rfl (Nat.le_of_ble_eq_true rfl) dX11_stepOn_216 (fun H locs hPa hDa hS => ?_)
            clear hP hD
            have hP : va_P (dC, dI) vwCl [(m0, .inr (11, oX11 ra (upd (upd (upd y0_0 6 (y0_0 2)) 4 0) 7 (y0_0 2)))), (ra 13, .inl (kI, 700, .inl q_tape))] H := hPa
            have hD : va_D A [(m0, .inr (11, oX11 ra (upd (upd (upd y0_0 6 (y0_0 2)) 4 0) 7 (y0_0 2)))), (ra 13, .inl (kI, 700, .inl q_tape))] := hDa
            clear hPa hDa
            have hP9 := hP
            have hD9 := hD
            exact W.vret hx hb hr (fun t ht hW => ⟨⟨(), rfl, trivial, upd (upd (upd y0_0 6 (y0_0 2)) 4 0) 7 (y0_0 2), (fI_u (fI_u (fI_u hI0_0 (k := 6) ((hI0_0 2 : iv 0 700 (y0_0 2)))) (k := 4) ((iv_w ivk_0 (by decide) (by decide)))) (k := 7) ((hI0_0 2 : iv 0 700 (y0_0 2)))), (show (x0 2).toInt ≤ (y0_0 2).toInt from by omega), (show y0_0 3 = x0 3 from hts_0), (show 0 = 0 ∨ (x0 2).toInt + 1 ≤ (y0_0 2).toInt from Or.inl rfl), (by subst hTQ; exact rs_end hRr hSt hq_tape (hX 2 : iv 0 700 (x0 2)) (rs_39 hRr hk_0 (hI0_0 2 : iv 0 700 (y0_0 2)) c41 c50) c55), (show y0_0 1 = x0 1 from htp_0), (show y0_0 10 = x0 10 from hfp_0), (show y0_0 23 = x0 23 from hhm_0), by rw [ht]; exact hP9, hD9⟩, hS.F ht⟩) hS.2.2 dX11_stepOn_219
        · have b77 : iv 10 10 (byA q_tape (y0_0 3) (y0_0 2)) := iv_eqL c50 ivk_10
          have b78 : iv 0 699 (y0_0 2) := (hq39).resolve_left (iv_ne b77 ivk_m1 (by decide))
          refine lv_aload_n hx hb dX11_stepOn_26 rfl (lv_at hl 0 rfl) ?_
          refine lv_dup hx hb dX11_stepOn_27 rfl ?_
          refine va_get (D := (dC, dI)) (ci := 11) (v := .int (y0_0 2)) (C := RX11) (T := TX11) (N := 61) hx hb hts hin11 hown hK hP 0 rfl rfl 16 (Nat.le_of_ble_eq_true rfl) hw_0 (fun _ h9 => h9) rfl dX11_stepOn_28 ?_
          refine lv_iconst (v := 1) hx hb dX11_stepOn_31 ic_1 ?_
          refine lv_iadd hx hb dX11_stepOn_32 ?_
          have b79 : iv 1 700 ((y0_0 2) + 1) := iv_add b78 ivk_1 (by decide) (by decide) (by decide) (by decide)
          have t80 : ((y0_0 2) + 1).toInt = (y0_0 2).toInt + 1 := iv_addc b78 (by decide) (by decide) (by decide)
          refine va_put (D := (dC, dI)) (ci := 11) (v := .int ((y0_0 2) + 1)) (ty := .int) (C := RX11) (T := TX11) (N := 61) hx hb hts hin11 tyX11 tyX11_ok nmX11 hown hK hP hD hS 0 rfl rfl 16 (by decide) hw_0 (fun _ h9 => h9) rfl (by decide +kernel) rfl rfl (Nat.le_of_ble_eq_true rfl) dX11_stepOn_33 (fun H locs hPa hDa hS => ?_)
          clear hP hD
          have hP : va_P (dC, dI) vwCl [(m0, .inr (11, oX11 ra (upd y0_0 2 ((y0_0 2) + 1)))), (ra 13, .inl (kI, 700, .inl q_tape))] H := hPa
          have hD : va_D A [(m0, .inr (11, oX11 ra (upd y0_0 2 ((y0_0 2) + 1)))), (ra 13, .inl (kI, 700, .inl q_tape))] := hDa
          clear hPa hDa
          refine lv_goto (tgt := 0) hx hb dX11_stepOn_36 rfl ?_
          exact ih0 (upd y0_0 2 ((y0_0 2) + 1)) _ _ _ (ms_up (c := 1) (d := 0) b78 hm0 (by decide) (iv_addc b78 (by decide) (by decide) (by decide)) (by decide) rfl) ((fI_u hI0_0 (k := 2) ((iv_w b79 (by decide) (by decide))))) ((by subst hTQ; exact rs_bl hRr hk_0 (iv_w b78 (by decide) (by decide)) (Or.inr c50))) ((show (x0 2).toInt ≤ ((y0_0 2) + 1).toInt from by omega)) ((show y0_0 3 = x0 3 from hts_0)) ((show y0_0 1 = x0 1 from htp_0)) ((show y0_0 10 = x0 10 from hfp_0)) ((show y0_0 23 = x0 23 from hhm_0)) (hP) (hD) hS (lv_sub hl [0] rfl)
  exact hJ0 _ x0 _ _ _ (Nat.lt_succ_self _) (hX) ((show R0 tT nN x0 x0 from rs_0)) ((show (x0 2).toInt ≤ (x0 2).toInt from by omega)) ((show x0 3 = x0 3 from rfl)) ((show x0 1 = x0 1 from rfl)) ((show x0 10 = x0 10 from rfl)) ((show x0 23 = x0 23 from rfl)) (hP) (hD) hS (lv_sub hl [0] rfl)
def rm_s11_is : Room := { frames := 4, cells := 0, slots := 0, locals := 85 }
set_option maxHeartbeats 4000000 in
set_option maxRecDepth 100000 in
theorem s11_is (l : Launch) (dC : Nat → ClassId) (dI : Nat → Nat → Nat) (kB kI kJ kZ kC kS : ClassId) (sz : Nat) (adK : Nat → Nat) (adV : Nat → Nat) (m0 : Nat) (ra : Nat → Nat) (x0 : Nat → Int32) (q_tape : Nat → Int32) (i : Nat) (tT : Nat → Int32) (nN : Int32) (sS : StT) (hX : fI lX11 hX11 x0) (hq_tape : fI (fun _ => 0) (fun _ => 255) q_tape) (hi : i < 10) (hRr : RRd tT nN x0 sS) (hTQ : tT = q_tape) : Met l yX11_is wsX11_is rm_s11_is (va_Pc [.ref m0, .ref (adK i)] (fun U => U.heap.size = sz ∧ va_P (dC, dI) vwCl [(m0, .inr (11, oX11 ra x0)), (ra 13, .inl (kI, 700, .inl q_tape))] U.heap ∧ kE dC dI kB kI kJ kZ kC kS U ∧ va_D (fun _ => True) [(m0, .inr (11, oX11 ra x0)), (ra 13, .inl (kI, 700, .inl q_tape))] ∧ kL adK adV (va_A [(m0, .inr (11, oX11 ra x0)), (ra 13, .inl (kI, 700, .inl q_tape))] sz) U)) (va_Qi (fun (r : Int32) (_ : Unit) => r = wS tT i sS ∧ iv 0 1 r) (fun _ t => va_P (dC, dI) vwCl [(m0, .inr (11, oX11 ra x0)), (ra 13, .inl (kI, 700, .inl q_tape))] t.heap ∧ va_D (va_A [(m0, .inr (11, oX11 ra x0)), (ra 13, .inl (kI, 700, .inl q_tape))] sz) [(m0, .inr (11, oX11 ra x0)), (ra 13, .inl (kI, 700, .inl q_tape))]) (va_A [(m0, .inr (11, oX11 ra x0)), (ra 13, .inl (kI, 700, .inl q_tape))] sz)) 0 0 (va_A [(m0, .inr (11, oX11 ra x0)), (ra 13, .inl (kI, 700, .inl q_tape))] sz) := by
  refine Met.ofW (cc := cX11_is) (maxL := 4) (ret := (some .boolean)) (by decide) rfl ?_
  intro p e s m args0 below meth c s₁ B hml hv
  obtain ⟨hargs, hsz, hP, hE, hD0, hKL⟩ := hv
  have hx := B.exec
  have hb := B.bytes
  have hr := B.returns
  have hts := atoms_spec (ws := wsX11_is) B.pre
  have hown : s.vm.findClass RX11 = some m.cls := findClass_of_methodNamed B.named
  have hlocks := B.notSynchronized
  have hK := hE.1
  have hin11 : ∀ w ∈ wsX110, w ∈ wsX11_is := fun _ h9 => List.mem_cons_of_mem _ (List.mem_append_right _ h9)
  have hw_0 := hts (.fieldLink RX11 66 "PathProberModel" "tape" "[I") (List.mem_of_getElem? (i := 5) rfl)
  have hw_1 := hts (.fieldLink RX11 158 "PathProberModel" "begins" "I") (List.mem_of_getElem? (i := 4) rfl)
  have hw_2 := hts (.fieldLink RX11 184 "PathProberModel" "bad" "I") (List.mem_of_getElem? (i := 1) rfl)
  have hw_3 := hts (.fieldLink RX11 161 "PathProberModel" "token" "I") (List.mem_of_getElem? (i := 2) rfl)
  have hw_4 := hts (.fieldLink RX11 181 "PathProberModel" "stops" "I") (List.mem_of_getElem? (i := 3) rfl)
  subst hsz
  have hD := hD0.self (sz := s.heap.size)
  generalize hAe : va_A [(m0, .inr (11, oX11 ra x0)), (ra 13, .inl (kI, 700, .inl q_tape))] s.heap.size = A at hD hKL ⊢
  have hA : ∀ q : Nat, s.heap.size ≤ q → A q := fun q h => by rw [← hAe]; exact Or.inr h
  have hS : va_S A s.heap s.heap [] := va_S.rf
  have hP : va_P (dC, dI) vwCl [(m0, .inr (11, oX11 ra x0)), (ra 13, .inl (kI, 700, .inl q_tape))] s.heap := hP
  have hl := lv_entry ([.ref m0, .ref (adK i)]) (n := 4) (Nat.le_of_ble_eq_true rfl)
  have hla : entryFrame m args0 4 = entryFrame m ([.ref m0, .ref (adK i)] : List Value).toArray 4 := by rw [hargs]
  rw [hla, lg_entry_eq]
  generalize (lg_sl ([.ref m0, .ref (adK i)]) ++ List.replicate (4 - (lg_sl ([.ref m0, .ref (adK i)])).length) Slot.unset).toArray = ls at hl ⊢
  have hl : lv_has ls 4 [(0, .ref m0), (1, .ref (adK i))] := hl
  have hJ39 : ∀ (n : Nat) (v39_loc2 : Int32) (v39_loc3 : Int32) (H : Heap) (locs : List Loc) (ls : Array Slot), (699 - v39_loc3.toInt).toNat < n → iv 0 1 v39_loc2 → iv 0 699 v39_loc3 → (v39_loc2 = 0 ∨ nI (lenL.getD i 0) = x0 7 - x0 6) → (IsR tT i x0 sS v39_loc2 v39_loc3) → (x0 1 = x0 1) → (x0 10 = x0 10) → (x0 23 = x0 23) → va_P (dC, dI) vwCl [(m0, .inr (11, oX11 ra x0)), (ra 13, .inl (kI, 700, .inl q_tape))] H → va_D A [(m0, .inr (11, oX11 ra x0)), (ra 13, .inl (kI, 700, .inl q_tape))] → va_S A s.heap H locs → lv_has ls 4 [(0, .ref m0), (1, .ref (adK i)), (2, .int v39_loc2), (3, .int v39_loc3)] → W p l e (headSpec wsX11_is rm_s11_is).room s m args0 below meth c H locs (0) (0) (MQ below (va_Qi (fun (r : Int32) (_ : Unit) => r = wS tT i sS ∧ iv 0 1 r) (fun _ t => va_P (dC, dI) vwCl [(m0, .inr (11, oX11 ra x0)), (ra 13, .inl (kI, 700, .inl q_tape))] t.heap ∧ va_D A [(m0, .inr (11, oX11 ra x0)), (ra 13, .inl (kI, 700, .inl q_tape))]) A) args0 s 0 0 A) (F0 m 39 ls []) := by
    intro n
    induction n with
    | zero => intro v39_loc2 v39_loc3 H locs ls hm39; exact absurd hm39 (Nat.not_lt_zero _)
    | succ n ih39 =>
      intro v39_loc2 v39_loc3 H locs ls hm39 h39_1 h39_2 hie_39 hir_39 htp_39 hfp_39 hhm_39 hP hD hS hl
      refine lv_iload_n hx hb dX11_is_39 rfl (lv_at hl 2 rfl) ?_
      refine lv_if_eq (tgt := 82) hx hb dX11_is_40 rfl (fun c1 => ?_) (fun c1 => ?_)
      · have b2 : iv 0 0 v39_loc2 := iv_eqL c1 ivk_0
        refine lv_iload_n hx hb dX11_is_82 rfl (lv_at hl 2 rfl) ?_
        have hP9 := hP
        have hD9 := hD
        exact W.zret (v := v39_loc2) (ty := .boolean) hx hb hr (z_nar (iv_w b2 (by decide) (by decide))) (fun t ht hW => ⟨⟨v39_loc2, (), rfl, ⟨is_e0 hir_39 c1, (iv_w b2 (by decide) (by decide))⟩, by rw [ht]; exact hP9, hD9⟩, hS.F ht⟩) hS.2.2 dX11_is_83
      · have b3 : iv 1 1 v39_loc2 := iv_neLo c1 h39_1 ivk_0 (by decide) (by decide)
        have hr4 : nI (lenL.getD i 0) = x0 7 - x0 6 := hie_39.resolve_left (iv_ne b3 ivk_0 (by decide))
        refine lv_iload_n hx hb dX11_is_43 rfl (lv_at hl 3 rfl) ?_
        refine lv_aload_n hx hb dX11_is_44 rfl (lv_at hl 1 rfl) ?_
        obtain ⟨hPc, hDc, hFc, hJn⟩ := cl_a (wc := []) (wr := [(m0, .inr (11, oX11 ra x0)), (ra 13, .inl (kI, 700, .inl q_tape))]) hP hD hS hA [] [0, 1] rfl rfl (by decide +kernel)
        refine va_calli (va_runV (As := []) (rest := [.int v39_loc3]) ⟨hx, hb, hml, hown, hts⟩ (sJ_length l dC dI kB kI kJ kZ kC kS H.size adK adV i (hi)) (cwV 0 hts gX11_is_J0_length_8abf5 rfl rfl rfl (by decide +kernel) ⟨Nat.le_of_ble_eq_true rfl, Nat.le_of_ble_eq_true rfl⟩) ⟨fun a U g mk q => by obtain ⟨q0, q1, qP, qE, qD, qL⟩ := q; exact ⟨q0, q1, qP, kE_call qE, qD, kL_call qL⟩, kS_recv hKL.1 hi hS, fun U hU hW => ⟨rfl, by rw [hU], by rw [hU]; exact hPc, kE_warm hW hE, hDc.weaken (fun _ _ _ _ => trivial), kL_at hKL hS hFc hW hU⟩⟩ rfl rfl hl.1 rfl (lv_room (Nat.le_of_ble_eq_true rfl)) dX11_is_45 ⟨Nat.le_of_ble_eq_true rfl, Nat.le_of_ble_eq_true rfl⟩) hS (fun q _ h => hFc q h) hFc (fun r5 u t H locs ht hvm w6 hB hz1 hk1 hS => ?_)
        obtain ⟨hP1, hD1⟩ := hB
        try dsimp only at w6
        obtain ⟨hPa, hDa⟩ := hJn (w1 := []) hk1 ht hP1 hD1
        clear hP hD hPc hDc hFc hJn hP1 hD1 hk1
        have hP : va_P (dC, dI) vwCl [(m0, .inr (11, oX11 ra x0)), (ra 13, .inl (kI, 700, .inl q_tape))] H := hPa
        have hD : va_D A [(m0, .inr (11, oX11 ra x0)), (ra 13, .inl (kI, 700, .inl q_tape))] := hDa
        clear hPa hDa
        refine W.widen (k := 0) (n := 0) (Nat.le_of_ble_eq_true rfl) (Nat.le_of_ble_eq_true rfl) ?_
        obtain ⟨w6, b7⟩ := w6
        subst w6
        refine lv_icmp_ge (tgt := 82) hx hb dX11_is_48 rfl (fun c8 => ?_) (fun c8 => ?_)
        · refine lv_iload_n hx hb dX11_is_82 rfl (lv_at hl 2 rfl) ?_
          have hP9 := hP
          have hD9 := hD
          exact W.zret (v := v39_loc2) (ty := .boolean) hx hb hr (z_nar (iv_w b3 (by decide) (by decide))) (fun t ht hW => ⟨⟨v39_loc2, (), rfl, ⟨is_e1 hRr hir_39 c1 c8, (iv_w b3 (by decide) (by decide))⟩, by rw [ht]; exact hP9, hD9⟩, hS.F ht⟩) hS.2.2 dX11_is_83
        · have b9 : iv 0 698 v39_loc3 := iv_ltL (Int32.not_le.mp c8) h39_2 b7 (by decide) (by decide)
          have b10 : iv 1 699 (nI (lenL.getD i 0)) := iv_ltR (Int32.not_le.mp c8) h39_2 b7 (by decide) (by decide)
          refine lv_aload_n hx hb dX11_is_51 rfl (lv_at hl 1 rfl) ?_
          refine lv_iload_n hx hb dX11_is_52 rfl (lv_at hl 3 rfl) ?_
          obtain ⟨hPc, hDc, hFc, hJn⟩ := cl_a (wc := []) (wr := [(m0, .inr (11, oX11 ra x0)), (ra 13, .inl (kI, 700, .inl q_tape))]) hP hD hS hA [] [0, 1] rfl rfl (by decide +kernel)
          refine va_calli (va_runV (As := [.int v39_loc3]) (rest := []) ⟨hx, hb, hml, hown, hts⟩ (sJ_charAt l dC dI kB kI kJ kZ kC kS H.size adK adV i v39_loc3 (hi) ((iv_w b9 (by decide) (by decide))) ((Int32.not_le.mp c8))) (cwV 1 hts gX11_is_J0_charAt_5068e rfl rfl rfl (by decide +kernel) ⟨Nat.le_of_ble_eq_true rfl, Nat.le_of_ble_eq_true rfl⟩) ⟨fun a U g mk q => by obtain ⟨q0, q1, qP, qE, qD, qL⟩ := q; exact ⟨q0, q1, qP, kE_call qE, qD, kL_call qL⟩, kS_recv hKL.1 hi hS, fun U hU hW => ⟨rfl, by rw [hU], by rw [hU]; exact hPc, kE_warm hW hE, hDc.weaken (fun _ _ _ _ => trivial), kL_at hKL hS hFc hW hU⟩⟩ rfl rfl hl.1 rfl (lv_room (Nat.le_of_ble_eq_true rfl)) dX11_is_53 ⟨Nat.le_of_ble_eq_true rfl, Nat.le_of_ble_eq_true rfl⟩) hS (fun q _ h => hFc q h) hFc (fun r11 u t H locs ht hvm w12 hB hz1 hk1 hS => ?_)
          obtain ⟨hP1, hD1⟩ := hB
          try dsimp only at w12
          obtain ⟨hPa, hDa⟩ := hJn (w1 := []) hk1 ht hP1 hD1
          clear hP hD hPc hDc hFc hJn hP1 hD1 hk1
          have hP : va_P (dC, dI) vwCl [(m0, .inr (11, oX11 ra x0)), (ra 13, .inl (kI, 700, .inl q_tape))] H := hPa
          have hD : va_D A [(m0, .inr (11, oX11 ra x0)), (ra 13, .inl (kI, 700, .inl q_tape))] := hDa
          clear hPa hDa
          refine W.widen (k := 0) (n := 0) (Nat.le_of_ble_eq_true rfl) (Nat.le_of_ble_eq_true rfl) ?_
          subst w12
          refine lv_aload_n hx hb dX11_is_56 rfl (lv_at hl 0 rfl) ?_
          refine va_get (D := (dC, dI)) (ci := 11) (v := .ref (ra 13)) (C := RX11) (T := TX11) (N := 61) hx hb hts hin11 hown hK hP 0 rfl rfl 14 (Nat.le_of_ble_eq_true rfl) hw_0 (fun _ h9 => h9) rfl dX11_is_57 ?_
          refine lv_aload_n hx hb dX11_is_60 rfl (lv_at hl 0 rfl) ?_
          refine va_get (D := (dC, dI)) (ci := 11) (v := .int (x0 6)) (C := RX11) (T := TX11) (N := 61) hx hb hts hin11 hown hK hP 0 rfl rfl 20 (Nat.le_of_ble_eq_true rfl) hw_1 (fun _ h9 => h9) rfl dX11_is_61 ?_
          refine lv_iload_n hx hb dX11_is_64 rfl (lv_at hl 3 rfl) ?_
          refine lv_iadd hx hb dX11_is_65 ?_
          have b13 : iv 0 699 ((x0 6) + v39_loc3) := is_ix (hX 6 : iv 0 700 (x0 6)) (hX 7 : iv 0 700 (x0 7)) (iv_w b9 (by decide) (by decide)) hr4 (Int32.not_le.mp c8)
          refine va_iald hx hb hK hP 1 1 rfl rfl (iv_in b13 (by decide) (by decide)) dX11_is_66 ?_
          have b14 : iv 0 255 (q_tape ((x0 6) + v39_loc3).toNatClampNeg) := hq_tape _
          refine lv_icmp_ne (tgt := 74) hx hb dX11_is_67 rfl (fun c15 => ?_) (fun c15 => ?_)
          · refine lv_iconst (v := 0) hx hb dX11_is_74 ic_0 ?_
            refine lv_istore_n (lv' := [(2, .int 0), (0, .ref m0), (1, .ref (adK i)), (3, .int v39_loc3)]) hx hb dX11_is_75 rfl hl (Nat.le_of_ble_eq_true rfl) rfl (fun ls hl => ?_)
            refine lv_iinc (v := v39_loc3 + Int32.ofInt 1) (lv' := [(3, .int (v39_loc3 + Int32.ofInt 1)), (2, .int 0), (0, .ref m0), (1, .ref (adK i))]) hx hb dX11_is_76 hl (k := 3) rfl (rfl) (Nat.le_of_ble_eq_true rfl) rfl (fun ls hl => ?_)
            have b16 : iv 1 699 (v39_loc3 + Int32.ofInt 1) := iv_add b9 ivo_1 (by decide) (by decide) (by decide) (by decide)
            refine lv_goto (tgt := 39) hx hb dX11_is_79 rfl ?_
            exact ih39 0 (v39_loc3 + Int32.ofInt 1) _ _ _ (ms_up (c := 1) (d := 0) b9 hm39 (by decide) (iv_inc 1 b9 (by decide) (by decide) (by decide) (by decide)) (by decide) rfl) ((iv_w ivk_0 (by decide) (by decide))) ((iv_w b16 (by decide) (by decide))) ((show 0 = 0 ∨ nI (lenL.getD i 0) = x0 7 - x0 6 from hie_39.elim (fun w => absurd w c1) Or.inr)) ((show IsR tT i x0 sS 0 (v39_loc3 + Int32.ofInt 1) from (by subst hTQ; exact is_n hRr hir_39 c1 (hX 6 : iv 0 700 (x0 6)) (iv_w b9 (by decide) (by decide)) (Int32.not_le.mp c8) c15))) ((show x0 1 = x0 1 from rfl)) ((show x0 10 = x0 10 from rfl)) ((show x0 23 = x0 23 from rfl)) (hP) (hD) hS (lv_sub hl [2, 3, 1, 0] rfl)
          · have b17 : iv 0 255 ((bytL.getD i []).getD v39_loc3.toNatClampNeg 0) := iv_eqL c15 b14
            refine lv_iconst (v := 1) hx hb dX11_is_70 ic_1 ?_
            refine lv_goto (tgt := 75) hx hb dX11_is_71 rfl ?_
            refine lv_istore_n (lv' := [(2, .int 1), (0, .ref m0), (1, .ref (adK i)), (3, .int v39_loc3)]) hx hb dX11_is_75 rfl hl (Nat.le_of_ble_eq_true rfl) rfl (fun ls hl => ?_)
            refine lv_iinc (v := v39_loc3 + Int32.ofInt 1) (lv' := [(3, .int (v39_loc3 + Int32.ofInt 1)), (2, .int 1), (0, .ref m0), (1, .ref (adK i))]) hx hb dX11_is_76 hl (k := 3) rfl (rfl) (Nat.le_of_ble_eq_true rfl) rfl (fun ls hl => ?_)
            have b18 : iv 1 699 (v39_loc3 + Int32.ofInt 1) := iv_add b9 ivo_1 (by decide) (by decide) (by decide) (by decide)
            refine lv_goto (tgt := 39) hx hb dX11_is_79 rfl ?_
            exact ih39 1 (v39_loc3 + Int32.ofInt 1) _ _ _ (ms_up (c := 1) (d := 0) b9 hm39 (by decide) (iv_inc 1 b9 (by decide) (by decide) (by decide) (by decide)) (by decide) rfl) ((iv_w ivk_1 (by decide) (by decide))) ((iv_w b18 (by decide) (by decide))) ((show 1 = 0 ∨ nI (lenL.getD i 0) = x0 7 - x0 6 from hie_39.elim (fun w => absurd w c1) Or.inr)) ((show IsR tT i x0 sS 1 (v39_loc3 + Int32.ofInt 1) from (by subst hTQ; exact is_y hir_39 c1 (hX 6 : iv 0 700 (x0 6)) (iv_w b9 (by decide) (by decide)) c15))) ((show x0 1 = x0 1 from rfl)) ((show x0 10 = x0 10 from rfl)) ((show x0 23 = x0 23 from rfl)) (hP) (hD) hS (lv_sub hl [2, 3, 1, 0] rfl)
  refine lv_aload_n hx hb dX11_is_0 rfl (lv_at hl 0 rfl) ?_
  refine va_get (D := (dC, dI)) (ci := 11) (v := .int (x0 8)) (C := RX11) (T := TX11) (N := 61) hx hb hts hin11 hown hK hP 0 rfl rfl 22 (Nat.le_of_ble_eq_true rfl) hw_2 (fun _ h9 => h9) rfl dX11_is_1 ?_
  refine lv_if_ne (tgt := 35) hx hb dX11_is_4 rfl (fun c19 => ?_) (fun c19 => ?_)
  · have b20 : iv 1 5 (x0 8) := iv_neLo c19 (hX 8 : iv 0 5 (x0 8)) ivk_0 (by decide) (by decide)
    refine lv_iconst (v := 0) hx hb dX11_is_35 ic_0 ?_
    refine lv_istore_n (lv' := [(2, .int 0), (0, .ref m0), (1, .ref (adK i))]) hx hb dX11_is_36 rfl hl (Nat.le_of_ble_eq_true rfl) rfl (fun ls hl => ?_)
    refine lv_iconst (v := 0) hx hb dX11_is_37 ic_0 ?_
    refine lv_istore_n (lv' := [(3, .int 0), (2, .int 0), (0, .ref m0), (1, .ref (adK i))]) hx hb dX11_is_38 rfl hl (Nat.le_of_ble_eq_true rfl) rfl (fun ls hl => ?_)
    exact hJ39 _ 0 0 _ _ _ (Nat.lt_succ_self _) ((iv_w ivk_0 (by decide) (by decide))) ((iv_w ivk_0 (by decide) (by decide))) ((show 0 = 0 ∨ nI (lenL.getD i 0) = x0 7 - x0 6 from Or.inl rfl)) ((show IsR tT i x0 sS 0 0 from is_b hRr c19)) ((show x0 1 = x0 1 from rfl)) ((show x0 10 = x0 10 from rfl)) ((show x0 23 = x0 23 from rfl)) (hP) (hD) hS (lv_sub hl [2, 3, 1, 0] rfl)
  · have b21 : iv 0 0 (x0 8) := iv_eqL c19 ivk_0
    refine lv_aload_n hx hb dX11_is_7 rfl (lv_at hl 0 rfl) ?_
    refine va_get (D := (dC, dI)) (ci := 11) (v := .int (x0 4)) (C := RX11) (T := TX11) (N := 61) hx hb hts hin11 hown hK hP 0 rfl rfl 18 (Nat.le_of_ble_eq_true rfl) hw_3 (fun _ h9 => h9) rfl dX11_is_8 ?_
    refine lv_iconst (v := 1) hx hb dX11_is_11 ic_1 ?_
    refine lv_icmp_ne (tgt := 35) hx hb dX11_is_12 rfl (fun c22 => ?_) (fun c22 => ?_)
    · refine lv_iconst (v := 0) hx hb dX11_is_35 ic_0 ?_
      refine lv_istore_n (lv' := [(2, .int 0), (0, .ref m0), (1, .ref (adK i))]) hx hb dX11_is_36 rfl hl (Nat.le_of_ble_eq_true rfl) rfl (fun ls hl => ?_)
      refine lv_iconst (v := 0) hx hb dX11_is_37 ic_0 ?_
      refine lv_istore_n (lv' := [(3, .int 0), (2, .int 0), (0, .ref m0), (1, .ref (adK i))]) hx hb dX11_is_38 rfl hl (Nat.le_of_ble_eq_true rfl) rfl (fun ls hl => ?_)
      exact hJ39 _ 0 0 _ _ _ (Nat.lt_succ_self _) ((iv_w ivk_0 (by decide) (by decide))) ((iv_w ivk_0 (by decide) (by decide))) ((show 0 = 0 ∨ nI (lenL.getD i 0) = x0 7 - x0 6 from Or.inl rfl)) ((show IsR tT i x0 sS 0 0 from is_t hRr c19 c22)) ((show x0 1 = x0 1 from rfl)) ((show x0 10 = x0 10 from rfl)) ((show x0 23 = x0 23 from rfl)) (hP) (hD) hS (lv_sub hl [2, 3, 1, 0] rfl)
    · have b23 : iv 1 1 (x0 4) := iv_eqL c22 ivk_1
      refine lv_aload_n hx hb dX11_is_15 rfl (lv_at hl 1 rfl) ?_
      obtain ⟨hPc, hDc, hFc, hJn⟩ := cl_a (wc := []) (wr := [(m0, .inr (11, oX11 ra x0)), (ra 13, .inl (kI, 700, .inl q_tape))]) hP hD hS hA [] [0, 1] rfl rfl (by decide +kernel)
      refine va_calli (va_runV (As := []) (rest := []) ⟨hx, hb, hml, hown, hts⟩ (sJ_length l dC dI kB kI kJ kZ kC kS s.heap.size adK adV i (hi)) (cwV 0 hts gX11_is_J0_length_8abf5 rfl rfl rfl (by decide +kernel) ⟨Nat.le_of_ble_eq_true rfl, Nat.le_of_ble_eq_true rfl⟩) ⟨fun a U g mk q => by obtain ⟨q0, q1, qP, qE, qD, qL⟩ := q; exact ⟨q0, q1, qP, kE_call qE, qD, kL_call qL⟩, kS_recv hKL.1 hi hS, fun U hU hW => ⟨rfl, by rw [hU], by rw [hU]; exact hPc, kE_warm hW hE, hDc.weaken (fun _ _ _ _ => trivial), kL_at hKL hS hFc hW hU⟩⟩ rfl rfl hl.1 rfl (lv_room (Nat.le_of_ble_eq_true rfl)) dX11_is_16 ⟨Nat.le_of_ble_eq_true rfl, Nat.le_of_ble_eq_true rfl⟩) hS (fun q _ h => hFc q h) hFc (fun r24 u t H locs ht hvm w25 hB hz1 hk1 hS => ?_)
      obtain ⟨hP1, hD1⟩ := hB
      try dsimp only at w25
      obtain ⟨hPa, hDa⟩ := hJn (w1 := []) hk1 ht hP1 hD1
      clear hP hD hPc hDc hFc hJn hP1 hD1 hk1
      have hP : va_P (dC, dI) vwCl [(m0, .inr (11, oX11 ra x0)), (ra 13, .inl (kI, 700, .inl q_tape))] H := hPa
      have hD : va_D A [(m0, .inr (11, oX11 ra x0)), (ra 13, .inl (kI, 700, .inl q_tape))] := hDa
      clear hPa hDa
      refine W.widen (k := 0) (n := 0) (Nat.le_of_ble_eq_true rfl) (Nat.le_of_ble_eq_true rfl) ?_
      obtain ⟨w25, b26⟩ := w25
      subst w25
      refine lv_aload_n hx hb dX11_is_19 rfl (lv_at hl 0 rfl) ?_
      refine va_get (D := (dC, dI)) (ci := 11) (v := .int (x0 7)) (C := RX11) (T := TX11) (N := 61) hx hb hts hin11 hown hK hP 0 rfl rfl 21 (Nat.le_of_ble_eq_true rfl) hw_4 (fun _ h9 => h9) rfl dX11_is_20 ?_
      refine lv_aload_n hx hb dX11_is_23 rfl (lv_at hl 0 rfl) ?_
      refine va_get (D := (dC, dI)) (ci := 11) (v := .int (x0 6)) (C := RX11) (T := TX11) (N := 61) hx hb hts hin11 hown hK hP 0 rfl rfl 20 (Nat.le_of_ble_eq_true rfl) hw_1 (fun _ h9 => h9) rfl dX11_is_24 ?_
      refine lv_isub hx hb dX11_is_27 ?_
      refine lv_icmp_ne (tgt := 35) hx hb dX11_is_28 rfl (fun c27 => ?_) (fun c27 => ?_)
      · refine lv_iconst (v := 0) hx hb dX11_is_35 ic_0 ?_
        refine lv_istore_n (lv' := [(2, .int 0), (0, .ref m0), (1, .ref (adK i))]) hx hb dX11_is_36 rfl hl (Nat.le_of_ble_eq_true rfl) rfl (fun ls hl => ?_)
        refine lv_iconst (v := 0) hx hb dX11_is_37 ic_0 ?_
        refine lv_istore_n (lv' := [(3, .int 0), (2, .int 0), (0, .ref m0), (1, .ref (adK i))]) hx hb dX11_is_38 rfl hl (Nat.le_of_ble_eq_true rfl) rfl (fun ls hl => ?_)
        exact hJ39 _ 0 0 _ _ _ (Nat.lt_succ_self _) ((iv_w ivk_0 (by decide) (by decide))) ((iv_w ivk_0 (by decide) (by decide))) ((show 0 = 0 ∨ nI (lenL.getD i 0) = x0 7 - x0 6 from Or.inl rfl)) ((show IsR tT i x0 sS 0 0 from is_l hRr c19 c27)) ((show x0 1 = x0 1 from rfl)) ((show x0 10 = x0 10 from rfl)) ((show x0 23 = x0 23 from rfl)) (hP) (hD) hS (lv_sub hl [2, 3, 1, 0] rfl)
      · have b28 : iv 0 699 ((x0 7) - (x0 6)) := iv_eqR c27 b26
        refine lv_iconst (v := 1) hx hb dX11_is_31 ic_1 ?_
        refine lv_goto (tgt := 36) hx hb dX11_is_32 rfl ?_
        refine lv_istore_n (lv' := [(2, .int 1), (0, .ref m0), (1, .ref (adK i))]) hx hb dX11_is_36 rfl hl (Nat.le_of_ble_eq_true rfl) rfl (fun ls hl => ?_)
        refine lv_iconst (v := 0) hx hb dX11_is_37 ic_0 ?_
        refine lv_istore_n (lv' := [(3, .int 0), (2, .int 1), (0, .ref m0), (1, .ref (adK i))]) hx hb dX11_is_38 rfl hl (Nat.le_of_ble_eq_true rfl) rfl (fun ls hl => ?_)
        exact hJ39 _ 1 0 _ _ _ (Nat.lt_succ_self _) ((iv_w ivk_1 (by decide) (by decide))) ((iv_w ivk_0 (by decide) (by decide))) ((show 1 = 0 ∨ nI (lenL.getD i 0) = x0 7 - x0 6 from Or.inr c27)) ((show IsR tT i x0 sS 1 0 from is_0 c19 c22 c27)) ((show x0 1 = x0 1 from rfl)) ((show x0 10 = x0 10 from rfl)) ((show x0 23 = x0 23 from rfl)) (hP) (hD) hS (lv_sub hl [2, 3, 1, 0] rfl)
def rm_s11_which : Room := { frames := 5, cells := 0, slots := 0, locals := 108 }
set_option maxHeartbeats 4000000 in
set_option maxRecDepth 100000 in
theorem s11_which (l : Launch) (dC : Nat → ClassId) (dI : Nat → Nat → Nat) (kB kI kJ kZ kC kS : ClassId) (sz : Nat) (adK : Nat → Nat) (adV : Nat → Nat) (m0 : Nat) (ra : Nat → Nat) (x0 : Nat → Int32) (q_tape : Nat → Int32) (b0 : Nat) (fw : Nat → Option Nat) (j0 : Nat) (tT : Nat → Int32) (nN : Int32) (sS : StT) (hX : fI lX11 hX11 x0) (hq_tape : fI (fun _ => 0) (fun _ => 255) q_tape) (hj : j0 ≤ 4) (hrow : ∀ k, k < 4 → fw k = some (adK (j0 + k))) (hRr : RRd tT nN x0 sS) (hTQ : tT = q_tape) : Met l yX11_which wsX11_which rm_s11_which (va_Pc [.ref m0, .ref b0] (fun U => U.heap.size = sz ∧ va_P (dC, dI) vwCl [(m0, .inr (11, oX11 ra x0)), (ra 13, .inl (kI, 700, .inl q_tape)), (b0, .inl (kS, 4, .inr (.inr (.inr (.inr fw)))))] U.heap ∧ kE dC dI kB kI kJ kZ kC kS U ∧ va_D (fun _ => True) [(m0, .inr (11, oX11 ra x0)), (ra 13, .inl (kI, 700, .inl q_tape)), (b0, .inl (kS, 4, .inr (.inr (.inr (.inr fw)))))] ∧ kL adK adV (va_A [(m0, .inr (11, oX11 ra x0)), (ra 13, .inl (kI, 700, .inl q_tape)), (b0, .inl (kS, 4, .inr (.inr (.inr (.inr fw)))))] sz) U)) (va_Qi (fun (r : Int32) (_ : Unit) => iv (-1) 3 r ∧ (r = whS tT j0 sS)) (fun _ t => va_P (dC, dI) vwCl [(m0, .inr (11, oX11 ra x0)), (ra 13, .inl (kI, 700, .inl q_tape)), (b0, .inl (kS, 4, .inr (.inr (.inr (.inr fw)))))] t.heap ∧ va_D (va_A [(m0, .inr (11, oX11 ra x0)), (ra 13, .inl (kI, 700, .inl q_tape)), (b0, .inl (kS, 4, .inr (.inr (.inr (.inr fw)))))] sz) [(m0, .inr (11, oX11 ra x0)), (ra 13, .inl (kI, 700, .inl q_tape)), (b0, .inl (kS, 4, .inr (.inr (.inr (.inr fw)))))]) (va_A [(m0, .inr (11, oX11 ra x0)), (ra 13, .inl (kI, 700, .inl q_tape)), (b0, .inl (kS, 4, .inr (.inr (.inr (.inr fw)))))] sz)) 0 0 (va_A [(m0, .inr (11, oX11 ra x0)), (ra 13, .inl (kI, 700, .inl q_tape)), (b0, .inl (kS, 4, .inr (.inr (.inr (.inr fw)))))] sz) := by
  refine Met.ofW (cc := cX11_which) (maxL := 3) (ret := (some .int)) (by decide) rfl ?_
  intro p e s m args0 below meth c s₁ B hml hv
  obtain ⟨hargs, hsz, hP, hE, hD0, hKL⟩ := hv
  have hx := B.exec
  have hb := B.bytes
  have hr := B.returns
  have hts := atoms_spec (ws := wsX11_which) B.pre
  have hown : s.vm.findClass RX11 = some m.cls := findClass_of_methodNamed B.named
  have hlocks := B.notSynchronized
  have hK := hE.1
  have hin11 : ∀ w ∈ wsX110, w ∈ wsX11_which := fun _ h9 => List.mem_cons_of_mem _ (List.mem_append_right _ h9)
  subst hsz
  have hD := hD0.self (sz := s.heap.size)
  generalize hAe : va_A [(m0, .inr (11, oX11 ra x0)), (ra 13, .inl (kI, 700, .inl q_tape)), (b0, .inl (kS, 4, .inr (.inr (.inr (.inr fw)))))] s.heap.size = A at hD hKL ⊢
  have hA : ∀ q : Nat, s.heap.size ≤ q → A q := fun q h => by rw [← hAe]; exact Or.inr h
  have hS : va_S A s.heap s.heap [] := va_S.rf
  have hP : va_P (dC, dI) vwCl [(m0, .inr (11, oX11 ra x0)), (ra 13, .inl (kI, 700, .inl q_tape)), (b0, .inl (kS, 4, .inr (.inr (.inr (.inr fw)))))] s.heap := hP
  have hl := lv_entry ([.ref m0, .ref b0]) (n := 3) (Nat.le_of_ble_eq_true rfl)
  have hla : entryFrame m args0 3 = entryFrame m ([.ref m0, .ref b0] : List Value).toArray 3 := by rw [hargs]
  rw [hla, lg_entry_eq]
  generalize (lg_sl ([.ref m0, .ref b0]) ++ List.replicate (3 - (lg_sl ([.ref m0, .ref b0])).length) Slot.unset).toArray = ls at hl ⊢
  have hl : lv_has ls 3 [(0, .ref m0), (1, .ref b0)] := hl
  have hJ2 : ∀ (n : Nat) (v2_loc2 : Int32) (H : Heap) (locs : List Loc) (ls : Array Slot), (4 - v2_loc2.toInt).toNat < n → iv 0 4 v2_loc2 → (∀ m : Nat, (m : Int) < v2_loc2.toInt → wS tT (j0 + m) sS = 0) → va_P (dC, dI) vwCl [(m0, .inr (11, oX11 ra x0)), (ra 13, .inl (kI, 700, .inl q_tape)), (b0, .inl (kS, 4, .inr (.inr (.inr (.inr fw)))))] H → va_D A [(m0, .inr (11, oX11 ra x0)), (ra 13, .inl (kI, 700, .inl q_tape)), (b0, .inl (kS, 4, .inr (.inr (.inr (.inr fw)))))] → va_S A s.heap H locs → lv_has ls 3 [(0, .ref m0), (1, .ref b0), (2, .int v2_loc2)] → W p l e (headSpec wsX11_which rm_s11_which).room s m args0 below meth c H locs (0) (0) (MQ below (va_Qi (fun (r : Int32) (_ : Unit) => iv (-1) 3 r ∧ (r = whS tT j0 sS)) (fun _ t => va_P (dC, dI) vwCl [(m0, .inr (11, oX11 ra x0)), (ra 13, .inl (kI, 700, .inl q_tape)), (b0, .inl (kS, 4, .inr (.inr (.inr (.inr fw)))))] t.heap ∧ va_D A [(m0, .inr (11, oX11 ra x0)), (ra 13, .inl (kI, 700, .inl q_tape)), (b0, .inl (kS, 4, .inr (.inr (.inr (.inr fw)))))]) A) args0 s 0 0 A) (F0 m 2 ls []) := by
    intro n
    induction n with
    | zero => intro v2_loc2 H locs ls hm2; exact absurd hm2 (Nat.not_lt_zero _)
    | succ n ih2 =>
      intro v2_loc2 H locs ls hm2 h2_1 hwh_2 hP hD hS hl
      refine lv_iload_n hx hb dX11_which_2 rfl (lv_at hl 2 rfl) ?_
      refine lv_aload_n hx hb dX11_which_3 rfl (lv_at hl 1 rfl) ?_
      refine va_alen (v := 4) hx hb hK hP 2 5 rfl rfl rfl dX11_which_4 ?_
      refine lv_icmp_ge (tgt := 26) hx hb dX11_which_5 rfl (fun c1 => ?_) (fun c1 => ?_)
      · have b2 : iv 4 4 v2_loc2 := iv_leR c1 ivk_4 h2_1 (by decide) (by decide)
        refine lv_iconst (v := (-1)) hx hb dX11_which_26 ic_m1 ?_
        have hP9 := hP
        have hD9 := hD
        exact W.iret (v := (-1)) hx hb hr (fun t ht hW => ⟨⟨(-1), (), rfl, ⟨(iv_w ivk_m1 (by decide) (by decide)), wh_n hwh_2 c1⟩, by rw [ht]; exact hP9, hD9⟩, hS.F ht⟩) hS.2.2 dX11_which_27
      · have b3 : iv 0 3 v2_loc2 := iv_ltL (Int32.not_le.mp c1) h2_1 ivk_4 (by decide) (by decide)
        refine lv_aload_n hx hb dX11_which_8 rfl (lv_at hl 0 rfl) ?_
        refine lv_aload_n hx hb dX11_which_9 rfl (lv_at hl 1 rfl) ?_
        refine lv_iload_n hx hb dX11_which_10 rfl (lv_at hl 2 rfl) ?_
        refine va_aldq hx hb hK hP 2 5 rfl rfl (iv_in b3 (by decide) (by decide)) dX11_which_11 ?_
        rw [hrow _ (by have q := b3; have q2 := q.1; have q3 := q.2; have q4 := cl_nat q (by decide); omega)]
        refine W.eq (g2 := F0 m 12 ls [.ref (adK (j0 + v2_loc2.toNatClampNeg)), .ref m0]) rfl ?_
        obtain ⟨hPc, hDc, hFc, hJn⟩ := cl_a (wc := [(m0, .inr (11, oX11 ra x0)), (ra 13, .inl (kI, 700, .inl q_tape))]) (wr := [(b0, .inl (kS, 4, .inr (.inr (.inr (.inr fw)))))]) hP hD hS hA [0, 1] [2] rfl rfl (by decide +kernel)
        refine va_calli (va_runV (As := [.ref (adK (j0 + v2_loc2.toNatClampNeg))]) (rest := []) ⟨hx, hb, hml, hown, hts⟩ (s11_is l dC dI kB kI kJ kZ kC kS H.size adK adV m0 ra x0 q_tape (j0 + v2_loc2.toNatClampNeg) tT nN sS (hX) (hq_tape) ((by have q := b3; have q2 := q.1; have q3 := q.2; have q4 := cl_nat q (by decide); omega)) (hRr) (hTQ)) (cwV 1 hts gX11_which_X11_is rfl rfl rfl (by decide +kernel) ⟨Nat.le_of_ble_eq_true rfl, Nat.le_of_ble_eq_true rfl⟩) ⟨fun a U g mk q => by obtain ⟨q0, q1, qP, qE, qD, qL⟩ := q; exact ⟨q0, q1, qP, kE_call qE, qD, kL_call qL⟩, va_recv hK hP (ci := 11) (q0 := 0) rfl rfl, fun U hU hW => ⟨rfl, by rw [hU], by rw [hU]; exact hPc, kE_warm hW hE, hDc.weaken (fun _ _ _ _ => trivial), kL_at hKL hS hFc hW hU⟩⟩ rfl rfl hl.1 rfl (lv_room (Nat.le_of_ble_eq_true rfl)) dX11_which_12 ⟨Nat.le_of_ble_eq_true rfl, Nat.le_of_ble_eq_true rfl⟩) hS (fun q _ h => hFc q h) hFc (fun r4 u t H locs ht hvm w5 hB hz1 hk1 hS => ?_)
        obtain ⟨hP1, hD1⟩ := hB
        try dsimp only at w5
        obtain ⟨hPa, hDa⟩ := hJn (w1 := [(m0, .inr (11, oX11 ra x0)), (ra 13, .inl (kI, 700, .inl q_tape))]) hk1 ht hP1 hD1
        clear hP hD hPc hDc hFc hJn hP1 hD1 hk1
        have hP : va_P (dC, dI) vwCl [(b0, .inl (kS, 4, .inr (.inr (.inr (.inr fw))))), (m0, .inr (11, oX11 ra x0)), (ra 13, .inl (kI, 700, .inl q_tape))] H := hPa
        have hD : va_D A [(b0, .inl (kS, 4, .inr (.inr (.inr (.inr fw))))), (m0, .inr (11, oX11 ra x0)), (ra 13, .inl (kI, 700, .inl q_tape))] := hDa
        clear hPa hDa
        refine W.widen (k := 0) (n := 0) (Nat.le_of_ble_eq_true rfl) (Nat.le_of_ble_eq_true rfl) ?_
        obtain ⟨w5, b6⟩ := w5
        subst w5
        refine lv_if_eq (tgt := 20) hx hb dX11_which_15 rfl (fun c7 => ?_) (fun c7 => ?_)
        · have b8 : iv 0 0 (wS tT (j0 + v2_loc2.toNatClampNeg) sS) := iv_eqL c7 ivk_0
          refine lv_iinc (v := v2_loc2 + Int32.ofInt 1) (lv' := [(2, .int (v2_loc2 + Int32.ofInt 1)), (0, .ref m0), (1, .ref b0)]) hx hb dX11_which_20 hl (k := 2) rfl (rfl) (Nat.le_of_ble_eq_true rfl) rfl (fun ls hl => ?_)
          have b9 : iv 1 4 (v2_loc2 + Int32.ofInt 1) := iv_add b3 ivo_1 (by decide) (by decide) (by decide) (by decide)
          refine lv_goto (tgt := 2) hx hb dX11_which_23 rfl ?_
          have hPD9 := cl_s (wc := [(m0, .inr (11, oX11 ra x0)), (ra 13, .inl (kI, 700, .inl q_tape)), (b0, .inl (kS, 4, .inr (.inr (.inr (.inr fw)))))]) hP hD [1, 2, 0] rfl (by decide +kernel)
          exact ih2 (v2_loc2 + Int32.ofInt 1) _ _ _ (ms_up (c := 1) (d := 0) b3 hm2 (by decide) (iv_inc 1 b3 (by decide) (by decide) (by decide) (by decide)) (by decide) rfl) ((iv_w b9 (by decide) (by decide))) ((show ∀ m : Nat, (m : Int) < (v2_loc2 + Int32.ofInt 1).toInt → wS tT (j0 + m) sS = 0 from al_s (P := fun m => wS tT (j0 + m) sS = 0) hwh_2 (iv_w b3 (by decide) (by decide)) c7)) (hPD9.1) (hPD9.2) hS (lv_sub hl [1, 2, 0] rfl)
        · have b10 : iv 1 1 (wS tT (j0 + v2_loc2.toNatClampNeg) sS) := iv_neLo c7 b6 ivk_0 (by decide) (by decide)
          refine lv_iload_n hx hb dX11_which_18 rfl (lv_at hl 2 rfl) ?_
          have hPD9 := cl_s (wc := [(m0, .inr (11, oX11 ra x0)), (ra 13, .inl (kI, 700, .inl q_tape)), (b0, .inl (kS, 4, .inr (.inr (.inr (.inr fw)))))]) hP hD [1, 2, 0] rfl (by decide +kernel)
          have hP9 := hPD9.1
          have hD9 := hPD9.2
          exact W.iret (v := v2_loc2) hx hb hr (fun t ht hW => ⟨⟨v2_loc2, (), rfl, ⟨(iv_w b3 (by decide) (by decide)), wh_y hwh_2 b3 c7⟩, by rw [ht]; exact hP9, hD9⟩, hS.F ht⟩) hS.2.2 dX11_which_19
  refine lv_iconst (v := 0) hx hb dX11_which_0 ic_0 ?_
  refine lv_istore_n (lv' := [(2, .int 0), (0, .ref m0), (1, .ref b0)]) hx hb dX11_which_1 rfl hl (Nat.le_of_ble_eq_true rfl) rfl (fun ls hl => ?_)
  exact hJ2 _ 0 _ _ _ (Nat.lt_succ_self _) ((iv_w ivk_0 (by decide) (by decide))) ((show ∀ m : Nat, (m : Int) < ((0 : Int32)).toInt → wS tT (j0 + m) sS = 0 from al_0)) (hP) (hD) hS (lv_sub hl [1, 2, 0] rfl)
def rm_s11_numberNow_0_11 : Room := { frames := 1, cells := 0, slots := 0, locals := 21 }
set_option maxHeartbeats 4000000 in
set_option maxRecDepth 100000 in
theorem s11_numberNow_0_11 (l : Launch) (dC : Nat → ClassId) (dI : Nat → Nat → Nat) (kB kI kJ kZ kC kS : ClassId) (sz : Nat) (m0 : Nat) (ra : Nat → Nat) (x0 : Nat → Int32) (tT : Nat → Int32) (nN : Int32) (sS : StT) (hX : fI lX11 hX11 x0) (hRr : RRd tT nN x0 sS) : Met l yX11_numberNow wsX11_numberNow rm_s11_numberNow_0_11 (va_Pc [.ref m0, .int 0, .int 11] (fun U => U.heap.size = sz ∧ va_P (dC, dI) vwCl [(m0, .inr (11, oX11 ra x0))] U.heap ∧ kE dC dI kB kI kJ kZ kC kS U ∧ va_D (fun _ => True) [(m0, .inr (11, oX11 ra x0))])) (va_Qi (fun (r : Int32) (_ : Unit) => iv 0 11 r ∧ (okT (numT tT 0 11 sS) → r = valS tT sS)) (fun _ t => ∃ (x0' : Nat → Int32), fI lX11 hX11 x0' ∧ ((x0' 2).toInt = (x0 2).toInt) ∧ (x0' 3 = x0 3) ∧ (RRd tT nN x0' (numT tT 0 11 sS)) ∧ (x0' 1 = x0 1) ∧ (x0' 10 = x0 10) ∧ (x0' 23 = x0 23) ∧ va_P (dC, dI) vwCl [(m0, .inr (11, oX11 ra x0'))] t.heap ∧ va_D (va_A [(m0, .inr (11, oX11 ra x0))] sz) [(m0, .inr (11, oX11 ra x0'))]) (va_A [(m0, .inr (11, oX11 ra x0))] sz)) 0 0 (va_A [(m0, .inr (11, oX11 ra x0))] sz) := by
  refine Met.ofW (cc := cX11_numberNow) (maxL := 3) (ret := (some .int)) (by decide) rfl ?_
  intro p e s m args0 below meth c s₁ B hml hv
  obtain ⟨hargs, hsz, hP, hE, hD0⟩ := hv
  have hx := B.exec
  have hb := B.bytes
  have hr := B.returns
  have hts := atoms_spec (ws := wsX11_numberNow) B.pre
  have hown : s.vm.findClass RX11 = some m.cls := findClass_of_methodNamed B.named
  have hlocks := B.notSynchronized
  have hK := hE.1
  have hin11 : ∀ w ∈ wsX110, w ∈ wsX11_numberNow := fun _ h9 => List.mem_cons_of_mem _ (List.mem_append_right _ h9)
  have hw_0 := hts (.fieldLink RX11 184 "PathProberModel" "bad" "I") (List.mem_of_getElem? (i := 1) rfl)
  have hw_1 := hts (.fieldLink RX11 161 "PathProberModel" "token" "I") (List.mem_of_getElem? (i := 2) rfl)
  have hw_2 := hts (.fieldLink RX11 181 "PathProberModel" "stops" "I") (List.mem_of_getElem? (i := 3) rfl)
  have hw_3 := hts (.fieldLink RX11 158 "PathProberModel" "begins" "I") (List.mem_of_getElem? (i := 4) rfl)
  have hw_4 := hts (.fieldLink RX11 171 "PathProberModel" "number" "I") (List.mem_of_getElem? (i := 5) rfl)
  subst hsz
  have hD := hD0.self (sz := s.heap.size)
  generalize hAe : va_A [(m0, .inr (11, oX11 ra x0))] s.heap.size = A at hD ⊢
  have hA : ∀ q : Nat, s.heap.size ≤ q → A q := fun q h => by rw [← hAe]; exact Or.inr h
  have hS : va_S A s.heap s.heap [] := va_S.rf
  have hP : va_P (dC, dI) vwCl [(m0, .inr (11, oX11 ra x0))] s.heap := hP
  have hl := lv_entry ([.ref m0, .int 0, .int 11]) (n := 3) (Nat.le_of_ble_eq_true rfl)
  have hla : entryFrame m args0 3 = entryFrame m ([.ref m0, .int 0, .int 11] : List Value).toArray 3 := by rw [hargs]
  rw [hla, lg_entry_eq]
  generalize (lg_sl ([.ref m0, .int 0, .int 11]) ++ List.replicate (3 - (lg_sl ([.ref m0, .int 0, .int 11])).length) Slot.unset).toArray = ls at hl ⊢
  have hl : lv_has ls 3 [(0, .ref m0), (1, .int 0), (2, .int 11)] := hl
  refine lv_aload_n hx hb dX11_numberNow_0 rfl (lv_at hl 0 rfl) ?_
  refine va_get (D := (dC, dI)) (ci := 11) (v := .int (x0 8)) (C := RX11) (T := TX11) (N := 61) hx hb hts hin11 hown hK hP 0 rfl rfl 22 (Nat.le_of_ble_eq_true rfl) hw_0 (fun _ h9 => h9) rfl dX11_numberNow_1 ?_
  refine lv_if_eq (tgt := 9) hx hb dX11_numberNow_4 rfl (fun c1 => ?_) (fun c1 => ?_)
  · have b2 : iv 0 0 (x0 8) := iv_eqL c1 ivk_0
    refine lv_aload_n hx hb dX11_numberNow_9 rfl (lv_at hl 0 rfl) ?_
    refine va_get (D := (dC, dI)) (ci := 11) (v := .int (x0 4)) (C := RX11) (T := TX11) (N := 61) hx hb hts hin11 hown hK hP 0 rfl rfl 18 (Nat.le_of_ble_eq_true rfl) hw_1 (fun _ h9 => h9) rfl dX11_numberNow_10 ?_
    refine lv_iconst (v := 2) hx hb dX11_numberNow_13 ic_2 ?_
    refine lv_icmp_eq (tgt := 25) hx hb dX11_numberNow_14 rfl (fun c3 => ?_) (fun c3 => ?_)
    · have b4 : iv 2 2 (x0 4) := iv_eqL c3 ivk_2
      refine lv_aload_n hx hb dX11_numberNow_25 rfl (lv_at hl 0 rfl) ?_
      refine va_get (D := (dC, dI)) (ci := 11) (v := .int (x0 7)) (C := RX11) (T := TX11) (N := 61) hx hb hts hin11 hown hK hP 0 rfl rfl 21 (Nat.le_of_ble_eq_true rfl) hw_2 (fun _ h9 => h9) rfl dX11_numberNow_26 ?_
      refine lv_aload_n hx hb dX11_numberNow_29 rfl (lv_at hl 0 rfl) ?_
      refine va_get (D := (dC, dI)) (ci := 11) (v := .int (x0 6)) (C := RX11) (T := TX11) (N := 61) hx hb hts hin11 hown hK hP 0 rfl rfl 20 (Nat.le_of_ble_eq_true rfl) hw_3 (fun _ h9 => h9) rfl dX11_numberNow_30 ?_
      refine lv_isub hx hb dX11_numberNow_33 ?_
      have b5 : iv (-700) 700 ((x0 7) - (x0 6)) := iv_sub (hX 7 : iv 0 700 (x0 7)) (hX 6 : iv 0 700 (x0 6)) (by decide) (by decide) (by decide) (by decide)
      refine lv_iconst (v := 2) hx hb dX11_numberNow_34 ic_2 ?_
      refine lv_icmp_gt (tgt := 54) hx hb dX11_numberNow_35 rfl (fun c6 => ?_) (fun c6 => ?_)
      · have b7 : iv 3 700 ((x0 7) - (x0 6)) := iv_ltR c6 ivk_2 b5 (by decide) (by decide)
        refine lv_aload_n hx hb dX11_numberNow_54 rfl (lv_at hl 0 rfl) ?_
        refine lv_iconst (v := 2) hx hb dX11_numberNow_55 ic_2 ?_
        obtain ⟨hPc, hDc, hFc, hJn⟩ := cl_a (wc := [(m0, .inr (11, oX11 ra x0))]) (wr := []) hP hD hS hA [0] [] rfl rfl (by decide +kernel)
        refine va_callv (va_runV (As := [.int 2]) (rest := []) ⟨hx, hb, hml, hown, hts⟩ (s11_wrong l dC dI kB kI kJ kZ kC kS s.heap.size m0 ra x0 2 tT nN sS (hX) ((iv_w ivk_2 (by decide) (by decide))) (hRr)) (cwV 1 hts gX11_numberNow_X11_wrong rfl rfl rfl (by decide +kernel) ⟨Nat.le_of_ble_eq_true rfl, Nat.le_of_ble_eq_true rfl⟩) ⟨fun a U g mk q => by obtain ⟨q0, q1, qP, qE, qD⟩ := q; exact ⟨q0, q1, qP, kE_call qE, qD⟩, va_recv hK hP (ci := 11) (q0 := 0) rfl rfl, fun U hU hW => ⟨rfl, by rw [hU], by rw [hU]; exact hPc, kE_warm hW hE, hDc.weaken (fun _ _ _ _ => trivial)⟩⟩ rfl rfl hl.1 rfl (lv_room (Nat.le_of_ble_eq_true rfl)) dX11_numberNow_56 ⟨Nat.le_of_ble_eq_true rfl, Nat.le_of_ble_eq_true rfl⟩) hS (fun q _ h => hFc q h) hFc (fun u t H locs ht hvm w9 hB hz1 hk1 hS => ?_)
        obtain ⟨y10, hq11, hq12, hq13, hq14, hq15, hq16, hq17, hq18, hP1, hD1⟩ := hB
        try dsimp only at w9
        obtain ⟨hPa, hDa⟩ := hJn (w1 := [(m0, .inr (11, oX11 ra y10))]) hk1 ht hP1 hD1
        clear hP hD hPc hDc hFc hJn hP1 hD1 hk1
        have hP : va_P (dC, dI) vwCl [(m0, .inr (11, oX11 ra y10))] H := hPa
        have hD : va_D A [(m0, .inr (11, oX11 ra y10))] := hDa
        clear hPa hDa
        refine W.widen (k := 0) (n := 0) (Nat.le_of_ble_eq_true rfl) (Nat.le_of_ble_eq_true rfl) ?_
        refine lv_aload_n hx hb dX11_numberNow_59 rfl (lv_at hl 0 rfl) ?_
        refine va_get (D := (dC, dI)) (ci := 11) (v := .int (y10 8)) (C := RX11) (T := TX11) (N := 61) hx hb hts hin11 hown hK hP 0 rfl rfl 22 (Nat.le_of_ble_eq_true rfl) hw_0 (fun _ h9 => h9) rfl dX11_numberNow_60 ?_
        refine lv_if_ne (tgt := 73) hx hb dX11_numberNow_63 rfl (fun _ => ?_) (fun c9 => absurd c9 (iv_ne hq12 ivk_0 (by decide)))
        refine lv_iload_n hx hb dX11_numberNow_73 rfl (lv_at hl 1 rfl) ?_
        have hP9 := hP
        have hD9 := hD
        exact W.iret (v := 0) hx hb hr (fun t ht hW => ⟨⟨0, (), rfl, ⟨(iv_w ivk_0 (by decide) (by decide)), fun hk => (ok_fail ((nr_2 hRr c3 c6).symm ▸ hk)).elim⟩, y10, hq11, (show (y10 2).toInt = (x0 2).toInt from by omega), (show y10 3 = x0 3 from hq14), (show RRd tT nN y10 (numT tT 0 11 sS) from (nr_2 hRr c3 c6) ▸ hq15), (show y10 1 = x0 1 from hq16), (show y10 10 = x0 10 from hq17), (show y10 23 = x0 23 from hq18), by rw [ht]; exact hP9, hD9⟩, hS.F ht⟩) hS.2.2 dX11_numberNow_74
      · have b19 : iv (-700) 2 ((x0 7) - (x0 6)) := iv_leL (Int32.not_lt.mp c6) b5 ivk_2 (by decide) (by decide)
        refine lv_aload_n hx hb dX11_numberNow_38 rfl (lv_at hl 0 rfl) ?_
        refine va_get (D := (dC, dI)) (ci := 11) (v := .int (x0 5)) (C := RX11) (T := TX11) (N := 61) hx hb hts hin11 hown hK hP 0 rfl rfl 19 (Nat.le_of_ble_eq_true rfl) hw_4 (fun _ h9 => h9) rfl dX11_numberNow_39 ?_
        refine lv_iload_n hx hb dX11_numberNow_42 rfl (lv_at hl 1 rfl) ?_
        refine lv_icmp_lt (tgt := 54) hx hb dX11_numberNow_43 rfl (fun c20 => ?_) (fun c20 => ?_)
        · have b21 : iv (-2147483648) (-1) (x0 5) := iv_ltL c20 (hX 5 : iv (-2147483648) 2147483647 (x0 5)) ivk_0 (by decide) (by decide)
          refine lv_aload_n hx hb dX11_numberNow_54 rfl (lv_at hl 0 rfl) ?_
          refine lv_iconst (v := 2) hx hb dX11_numberNow_55 ic_2 ?_
          obtain ⟨hPc, hDc, hFc, hJn⟩ := cl_a (wc := [(m0, .inr (11, oX11 ra x0))]) (wr := []) hP hD hS hA [0] [] rfl rfl (by decide +kernel)
          refine va_callv (va_runV (As := [.int 2]) (rest := []) ⟨hx, hb, hml, hown, hts⟩ (s11_wrong l dC dI kB kI kJ kZ kC kS s.heap.size m0 ra x0 2 tT nN sS (hX) ((iv_w ivk_2 (by decide) (by decide))) (hRr)) (cwV 1 hts gX11_numberNow_X11_wrong rfl rfl rfl (by decide +kernel) ⟨Nat.le_of_ble_eq_true rfl, Nat.le_of_ble_eq_true rfl⟩) ⟨fun a U g mk q => by obtain ⟨q0, q1, qP, qE, qD⟩ := q; exact ⟨q0, q1, qP, kE_call qE, qD⟩, va_recv hK hP (ci := 11) (q0 := 0) rfl rfl, fun U hU hW => ⟨rfl, by rw [hU], by rw [hU]; exact hPc, kE_warm hW hE, hDc.weaken (fun _ _ _ _ => trivial)⟩⟩ rfl rfl hl.1 rfl (lv_room (Nat.le_of_ble_eq_true rfl)) dX11_numberNow_56 ⟨Nat.le_of_ble_eq_true rfl, Nat.le_of_ble_eq_true rfl⟩) hS (fun q _ h => hFc q h) hFc (fun u t H locs ht hvm w23 hB hz1 hk1 hS => ?_)
          obtain ⟨y24, hq25, hq26, hq27, hq28, hq29, hq30, hq31, hq32, hP1, hD1⟩ := hB
          try dsimp only at w23
          obtain ⟨hPa, hDa⟩ := hJn (w1 := [(m0, .inr (11, oX11 ra y24))]) hk1 ht hP1 hD1
          clear hP hD hPc hDc hFc hJn hP1 hD1 hk1
          have hP : va_P (dC, dI) vwCl [(m0, .inr (11, oX11 ra y24))] H := hPa
          have hD : va_D A [(m0, .inr (11, oX11 ra y24))] := hDa
          clear hPa hDa
          refine W.widen (k := 0) (n := 0) (Nat.le_of_ble_eq_true rfl) (Nat.le_of_ble_eq_true rfl) ?_
          refine lv_aload_n hx hb dX11_numberNow_59 rfl (lv_at hl 0 rfl) ?_
          refine va_get (D := (dC, dI)) (ci := 11) (v := .int (y24 8)) (C := RX11) (T := TX11) (N := 61) hx hb hts hin11 hown hK hP 0 rfl rfl 22 (Nat.le_of_ble_eq_true rfl) hw_0 (fun _ h9 => h9) rfl dX11_numberNow_60 ?_
          refine lv_if_ne (tgt := 73) hx hb dX11_numberNow_63 rfl (fun _ => ?_) (fun c9 => absurd c9 (iv_ne hq26 ivk_0 (by decide)))
          refine lv_iload_n hx hb dX11_numberNow_73 rfl (lv_at hl 1 rfl) ?_
          have hP9 := hP
          have hD9 := hD
          exact W.iret (v := 0) hx hb hr (fun t ht hW => ⟨⟨0, (), rfl, ⟨(iv_w ivk_0 (by decide) (by decide)), fun hk => (ok_fail ((nr_3 hRr c3 (Int32.not_lt.mp c6) (Or.inl c20)).symm ▸ hk)).elim⟩, y24, hq25, (show (y24 2).toInt = (x0 2).toInt from by omega), (show y24 3 = x0 3 from hq28), (show RRd tT nN y24 (numT tT 0 11 sS) from (nr_3 hRr c3 (Int32.not_lt.mp c6) (Or.inl c20)) ▸ hq29), (show y24 1 = x0 1 from hq30), (show y24 10 = x0 10 from hq31), (show y24 23 = x0 23 from hq32), by rw [ht]; exact hP9, hD9⟩, hS.F ht⟩) hS.2.2 dX11_numberNow_74
        · have b33 : iv 0 2147483647 (x0 5) := iv_leR (Int32.not_lt.mp c20) ivk_0 (hX 5 : iv (-2147483648) 2147483647 (x0 5)) (by decide) (by decide)
          refine lv_aload_n hx hb dX11_numberNow_46 rfl (lv_at hl 0 rfl) ?_
          refine va_get (D := (dC, dI)) (ci := 11) (v := .int (x0 5)) (C := RX11) (T := TX11) (N := 61) hx hb hts hin11 hown hK hP 0 rfl rfl 19 (Nat.le_of_ble_eq_true rfl) hw_4 (fun _ h9 => h9) rfl dX11_numberNow_47 ?_
          refine lv_iload_n hx hb dX11_numberNow_50 rfl (lv_at hl 2 rfl) ?_
          refine lv_icmp_le (tgt := 59) hx hb dX11_numberNow_51 rfl (fun c34 => ?_) (fun c34 => ?_)
          · have b35 : iv 0 11 (x0 5) := iv_leL c34 b33 ivk_11 (by decide) (by decide)
            refine lv_aload_n hx hb dX11_numberNow_59 rfl (lv_at hl 0 rfl) ?_
            refine va_get (D := (dC, dI)) (ci := 11) (v := .int (x0 8)) (C := RX11) (T := TX11) (N := 61) hx hb hts hin11 hown hK hP 0 rfl rfl 22 (Nat.le_of_ble_eq_true rfl) hw_0 (fun _ h9 => h9) rfl dX11_numberNow_60 ?_
            refine lv_if_ne (tgt := 73) hx hb dX11_numberNow_63 rfl (fun c9 => absurd (c1) c9) (fun _ => ?_)
            refine lv_aload_n hx hb dX11_numberNow_66 rfl (lv_at hl 0 rfl) ?_
            refine va_get (D := (dC, dI)) (ci := 11) (v := .int (x0 5)) (C := RX11) (T := TX11) (N := 61) hx hb hts hin11 hown hK hP 0 rfl rfl 19 (Nat.le_of_ble_eq_true rfl) hw_4 (fun _ h9 => h9) rfl dX11_numberNow_67 ?_
            refine lv_goto (tgt := 74) hx hb dX11_numberNow_70 rfl ?_
            have hP9 := hP
            have hD9 := hD
            exact W.iret (v := x0 5) hx hb hr (fun t ht hW => ⟨⟨x0 5, (), rfl, ⟨b35, fun _ => (nr_ok hRr c1 c3 (Int32.not_lt.mp c6) (Int32.not_lt.mp c20) c34).2⟩, x0, hX, (show (x0 2).toInt = (x0 2).toInt from by omega), (show x0 3 = x0 3 from rfl), (show RRd tT nN x0 (numT tT 0 11 sS) from (nr_ok hRr c1 c3 (Int32.not_lt.mp c6) (Int32.not_lt.mp c20) c34).1 ▸ hRr), (show x0 1 = x0 1 from rfl), (show x0 10 = x0 10 from rfl), (show x0 23 = x0 23 from rfl), by rw [ht]; exact hP9, hD9⟩, hS.F ht⟩) hS.2.2 dX11_numberNow_74
          · have b36 : iv 12 2147483647 (x0 5) := iv_ltR (Int32.not_le.mp c34) ivk_11 b33 (by decide) (by decide)
            refine lv_aload_n hx hb dX11_numberNow_54 rfl (lv_at hl 0 rfl) ?_
            refine lv_iconst (v := 2) hx hb dX11_numberNow_55 ic_2 ?_
            obtain ⟨hPc, hDc, hFc, hJn⟩ := cl_a (wc := [(m0, .inr (11, oX11 ra x0))]) (wr := []) hP hD hS hA [0] [] rfl rfl (by decide +kernel)
            refine va_callv (va_runV (As := [.int 2]) (rest := []) ⟨hx, hb, hml, hown, hts⟩ (s11_wrong l dC dI kB kI kJ kZ kC kS s.heap.size m0 ra x0 2 tT nN sS (hX) ((iv_w ivk_2 (by decide) (by decide))) (hRr)) (cwV 1 hts gX11_numberNow_X11_wrong rfl rfl rfl (by decide +kernel) ⟨Nat.le_of_ble_eq_true rfl, Nat.le_of_ble_eq_true rfl⟩) ⟨fun a U g mk q => by obtain ⟨q0, q1, qP, qE, qD⟩ := q; exact ⟨q0, q1, qP, kE_call qE, qD⟩, va_recv hK hP (ci := 11) (q0 := 0) rfl rfl, fun U hU hW => ⟨rfl, by rw [hU], by rw [hU]; exact hPc, kE_warm hW hE, hDc.weaken (fun _ _ _ _ => trivial)⟩⟩ rfl rfl hl.1 rfl (lv_room (Nat.le_of_ble_eq_true rfl)) dX11_numberNow_56 ⟨Nat.le_of_ble_eq_true rfl, Nat.le_of_ble_eq_true rfl⟩) hS (fun q _ h => hFc q h) hFc (fun u t H locs ht hvm w38 hB hz1 hk1 hS => ?_)
            obtain ⟨y39, hq40, hq41, hq42, hq43, hq44, hq45, hq46, hq47, hP1, hD1⟩ := hB
            try dsimp only at w38
            obtain ⟨hPa, hDa⟩ := hJn (w1 := [(m0, .inr (11, oX11 ra y39))]) hk1 ht hP1 hD1
            clear hP hD hPc hDc hFc hJn hP1 hD1 hk1
            have hP : va_P (dC, dI) vwCl [(m0, .inr (11, oX11 ra y39))] H := hPa
            have hD : va_D A [(m0, .inr (11, oX11 ra y39))] := hDa
            clear hPa hDa
            refine W.widen (k := 0) (n := 0) (Nat.le_of_ble_eq_true rfl) (Nat.le_of_ble_eq_true rfl) ?_
            refine lv_aload_n hx hb dX11_numberNow_59 rfl (lv_at hl 0 rfl) ?_
            refine va_get (D := (dC, dI)) (ci := 11) (v := .int (y39 8)) (C := RX11) (T := TX11) (N := 61) hx hb hts hin11 hown hK hP 0 rfl rfl 22 (Nat.le_of_ble_eq_true rfl) hw_0 (fun _ h9 => h9) rfl dX11_numberNow_60 ?_
            refine lv_if_ne (tgt := 73) hx hb dX11_numberNow_63 rfl (fun _ => ?_) (fun c9 => absurd c9 (iv_ne hq41 ivk_0 (by decide)))
            refine lv_iload_n hx hb dX11_numberNow_73 rfl (lv_at hl 1 rfl) ?_
            have hP9 := hP
            have hD9 := hD
            exact W.iret (v := 0) hx hb hr (fun t ht hW => ⟨⟨0, (), rfl, ⟨(iv_w ivk_0 (by decide) (by decide)), fun hk => (ok_fail ((nr_3 hRr c3 (Int32.not_lt.mp c6) (Or.inr (Int32.not_le.mp c34))).symm ▸ hk)).elim⟩, y39, hq40, (show (y39 2).toInt = (x0 2).toInt from by omega), (show y39 3 = x0 3 from hq43), (show RRd tT nN y39 (numT tT 0 11 sS) from (nr_3 hRr c3 (Int32.not_lt.mp c6) (Or.inr (Int32.not_le.mp c34))) ▸ hq44), (show y39 1 = x0 1 from hq45), (show y39 10 = x0 10 from hq46), (show y39 23 = x0 23 from hq47), by rw [ht]; exact hP9, hD9⟩, hS.F ht⟩) hS.2.2 dX11_numberNow_74
    · refine lv_aload_n hx hb dX11_numberNow_17 rfl (lv_at hl 0 rfl) ?_
      refine lv_iconst (v := 1) hx hb dX11_numberNow_18 ic_1 ?_
      obtain ⟨hPc, hDc, hFc, hJn⟩ := cl_a (wc := [(m0, .inr (11, oX11 ra x0))]) (wr := []) hP hD hS hA [0] [] rfl rfl (by decide +kernel)
      refine va_callv (va_runV (As := [.int 1]) (rest := []) ⟨hx, hb, hml, hown, hts⟩ (s11_wrong l dC dI kB kI kJ kZ kC kS s.heap.size m0 ra x0 1 tT nN sS (hX) ((iv_w ivk_1 (by decide) (by decide))) (hRr)) (cwV 1 hts gX11_numberNow_X11_wrong rfl rfl rfl (by decide +kernel) ⟨Nat.le_of_ble_eq_true rfl, Nat.le_of_ble_eq_true rfl⟩) ⟨fun a U g mk q => by obtain ⟨q0, q1, qP, qE, qD⟩ := q; exact ⟨q0, q1, qP, kE_call qE, qD⟩, va_recv hK hP (ci := 11) (q0 := 0) rfl rfl, fun U hU hW => ⟨rfl, by rw [hU], by rw [hU]; exact hPc, kE_warm hW hE, hDc.weaken (fun _ _ _ _ => trivial)⟩⟩ rfl rfl hl.1 rfl (lv_room (Nat.le_of_ble_eq_true rfl)) dX11_numberNow_19 ⟨Nat.le_of_ble_eq_true rfl, Nat.le_of_ble_eq_true rfl⟩) hS (fun q _ h => hFc q h) hFc (fun u t H locs ht hvm w49 hB hz1 hk1 hS => ?_)
      obtain ⟨y50, hq51, hq52, hq53, hq54, hq55, hq56, hq57, hq58, hP1, hD1⟩ := hB
      try dsimp only at w49
      obtain ⟨hPa, hDa⟩ := hJn (w1 := [(m0, .inr (11, oX11 ra y50))]) hk1 ht hP1 hD1
      clear hP hD hPc hDc hFc hJn hP1 hD1 hk1
      have hP : va_P (dC, dI) vwCl [(m0, .inr (11, oX11 ra y50))] H := hPa
      have hD : va_D A [(m0, .inr (11, oX11 ra y50))] := hDa
      clear hPa hDa
      refine W.widen (k := 0) (n := 0) (Nat.le_of_ble_eq_true rfl) (Nat.le_of_ble_eq_true rfl) ?_
      refine lv_goto (tgt := 59) hx hb dX11_numberNow_22 rfl ?_
      refine lv_aload_n hx hb dX11_numberNow_59 rfl (lv_at hl 0 rfl) ?_
      refine va_get (D := (dC, dI)) (ci := 11) (v := .int (y50 8)) (C := RX11) (T := TX11) (N := 61) hx hb hts hin11 hown hK hP 0 rfl rfl 22 (Nat.le_of_ble_eq_true rfl) hw_0 (fun _ h9 => h9) rfl dX11_numberNow_60 ?_
      refine lv_if_ne (tgt := 73) hx hb dX11_numberNow_63 rfl (fun _ => ?_) (fun c9 => absurd c9 (iv_ne hq52 ivk_0 (by decide)))
      refine lv_iload_n hx hb dX11_numberNow_73 rfl (lv_at hl 1 rfl) ?_
      have hP9 := hP
      have hD9 := hD
      exact W.iret (v := 0) hx hb hr (fun t ht hW => ⟨⟨0, (), rfl, ⟨(iv_w ivk_0 (by decide) (by decide)), fun hk => (ok_fail ((nr_1 hRr c3).symm ▸ hk)).elim⟩, y50, hq51, (show (y50 2).toInt = (x0 2).toInt from by omega), (show y50 3 = x0 3 from hq54), (show RRd tT nN y50 (numT tT 0 11 sS) from (nr_1 hRr c3) ▸ hq55), (show y50 1 = x0 1 from hq56), (show y50 10 = x0 10 from hq57), (show y50 23 = x0 23 from hq58), by rw [ht]; exact hP9, hD9⟩, hS.F ht⟩) hS.2.2 dX11_numberNow_74
  · have b59 : iv 1 5 (x0 8) := iv_neLo c1 (hX 8 : iv 0 5 (x0 8)) ivk_0 (by decide) (by decide)
    refine lv_iload_n hx hb dX11_numberNow_7 rfl (lv_at hl 1 rfl) ?_
    have hP9 := hP
    have hD9 := hD
    exact W.iret (v := 0) hx hb hr (fun t ht hW => ⟨⟨0, (), rfl, ⟨(iv_w ivk_0 (by decide) (by decide)), fun hk => absurd (ok_num hk) (rr_no hRr c1)⟩, x0, hX, (show (x0 2).toInt = (x0 2).toInt from by omega), (show x0 3 = x0 3 from rfl), (show RRd tT nN x0 (numT tT 0 11 sS) from nr_b hRr c1 ▸ hRr), (show x0 1 = x0 1 from rfl), (show x0 10 = x0 10 from rfl), (show x0 23 = x0 23 from rfl), by rw [ht]; exact hP9, hD9⟩, hS.F ht⟩) hS.2.2 dX11_numberNow_8
def rm_s11_numberNow_0_15 : Room := { frames := 1, cells := 0, slots := 0, locals := 21 }
set_option maxHeartbeats 4000000 in
set_option maxRecDepth 100000 in
theorem s11_numberNow_0_15 (l : Launch) (dC : Nat → ClassId) (dI : Nat → Nat → Nat) (kB kI kJ kZ kC kS : ClassId) (sz : Nat) (m0 : Nat) (ra : Nat → Nat) (x0 : Nat → Int32) (tT : Nat → Int32) (nN : Int32) (sS : StT) (hX : fI lX11 hX11 x0) (hRr : RRd tT nN x0 sS) : Met l yX11_numberNow wsX11_numberNow rm_s11_numberNow_0_15 (va_Pc [.ref m0, .int 0, .int 15] (fun U => U.heap.size = sz ∧ va_P (dC, dI) vwCl [(m0, .inr (11, oX11 ra x0))] U.heap ∧ kE dC dI kB kI kJ kZ kC kS U ∧ va_D (fun _ => True) [(m0, .inr (11, oX11 ra x0))])) (va_Qi (fun (r : Int32) (_ : Unit) => iv 0 15 r ∧ (okT (numT tT 0 15 sS) → r = valS tT sS)) (fun _ t => ∃ (x0' : Nat → Int32), fI lX11 hX11 x0' ∧ ((x0' 2).toInt = (x0 2).toInt) ∧ (x0' 3 = x0 3) ∧ (RRd tT nN x0' (numT tT 0 15 sS)) ∧ (x0' 1 = x0 1) ∧ (x0' 10 = x0 10) ∧ (x0' 23 = x0 23) ∧ va_P (dC, dI) vwCl [(m0, .inr (11, oX11 ra x0'))] t.heap ∧ va_D (va_A [(m0, .inr (11, oX11 ra x0))] sz) [(m0, .inr (11, oX11 ra x0'))]) (va_A [(m0, .inr (11, oX11 ra x0))] sz)) 0 0 (va_A [(m0, .inr (11, oX11 ra x0))] sz) := by
  refine Met.ofW (cc := cX11_numberNow) (maxL := 3) (ret := (some .int)) (by decide) rfl ?_
  intro p e s m args0 below meth c s₁ B hml hv
  obtain ⟨hargs, hsz, hP, hE, hD0⟩ := hv
  have hx := B.exec
  have hb := B.bytes
  have hr := B.returns
  have hts := atoms_spec (ws := wsX11_numberNow) B.pre
  have hown : s.vm.findClass RX11 = some m.cls := findClass_of_methodNamed B.named
  have hlocks := B.notSynchronized
  have hK := hE.1
  have hin11 : ∀ w ∈ wsX110, w ∈ wsX11_numberNow := fun _ h9 => List.mem_cons_of_mem _ (List.mem_append_right _ h9)
  have hw_0 := hts (.fieldLink RX11 184 "PathProberModel" "bad" "I") (List.mem_of_getElem? (i := 1) rfl)
  have hw_1 := hts (.fieldLink RX11 161 "PathProberModel" "token" "I") (List.mem_of_getElem? (i := 2) rfl)
  have hw_2 := hts (.fieldLink RX11 181 "PathProberModel" "stops" "I") (List.mem_of_getElem? (i := 3) rfl)
  have hw_3 := hts (.fieldLink RX11 158 "PathProberModel" "begins" "I") (List.mem_of_getElem? (i := 4) rfl)
  have hw_4 := hts (.fieldLink RX11 171 "PathProberModel" "number" "I") (List.mem_of_getElem? (i := 5) rfl)
  subst hsz
  have hD := hD0.self (sz := s.heap.size)
  generalize hAe : va_A [(m0, .inr (11, oX11 ra x0))] s.heap.size = A at hD ⊢
  have hA : ∀ q : Nat, s.heap.size ≤ q → A q := fun q h => by rw [← hAe]; exact Or.inr h
  have hS : va_S A s.heap s.heap [] := va_S.rf
  have hP : va_P (dC, dI) vwCl [(m0, .inr (11, oX11 ra x0))] s.heap := hP
  have hl := lv_entry ([.ref m0, .int 0, .int 15]) (n := 3) (Nat.le_of_ble_eq_true rfl)
  have hla : entryFrame m args0 3 = entryFrame m ([.ref m0, .int 0, .int 15] : List Value).toArray 3 := by rw [hargs]
  rw [hla, lg_entry_eq]
  generalize (lg_sl ([.ref m0, .int 0, .int 15]) ++ List.replicate (3 - (lg_sl ([.ref m0, .int 0, .int 15])).length) Slot.unset).toArray = ls at hl ⊢
  have hl : lv_has ls 3 [(0, .ref m0), (1, .int 0), (2, .int 15)] := hl
  refine lv_aload_n hx hb dX11_numberNow_0 rfl (lv_at hl 0 rfl) ?_
  refine va_get (D := (dC, dI)) (ci := 11) (v := .int (x0 8)) (C := RX11) (T := TX11) (N := 61) hx hb hts hin11 hown hK hP 0 rfl rfl 22 (Nat.le_of_ble_eq_true rfl) hw_0 (fun _ h9 => h9) rfl dX11_numberNow_1 ?_
  refine lv_if_eq (tgt := 9) hx hb dX11_numberNow_4 rfl (fun c1 => ?_) (fun c1 => ?_)
  · have b2 : iv 0 0 (x0 8) := iv_eqL c1 ivk_0
    refine lv_aload_n hx hb dX11_numberNow_9 rfl (lv_at hl 0 rfl) ?_
    refine va_get (D := (dC, dI)) (ci := 11) (v := .int (x0 4)) (C := RX11) (T := TX11) (N := 61) hx hb hts hin11 hown hK hP 0 rfl rfl 18 (Nat.le_of_ble_eq_true rfl) hw_1 (fun _ h9 => h9) rfl dX11_numberNow_10 ?_
    refine lv_iconst (v := 2) hx hb dX11_numberNow_13 ic_2 ?_
    refine lv_icmp_eq (tgt := 25) hx hb dX11_numberNow_14 rfl (fun c3 => ?_) (fun c3 => ?_)
    · have b4 : iv 2 2 (x0 4) := iv_eqL c3 ivk_2
      refine lv_aload_n hx hb dX11_numberNow_25 rfl (lv_at hl 0 rfl) ?_
      refine va_get (D := (dC, dI)) (ci := 11) (v := .int (x0 7)) (C := RX11) (T := TX11) (N := 61) hx hb hts hin11 hown hK hP 0 rfl rfl 21 (Nat.le_of_ble_eq_true rfl) hw_2 (fun _ h9 => h9) rfl dX11_numberNow_26 ?_
      refine lv_aload_n hx hb dX11_numberNow_29 rfl (lv_at hl 0 rfl) ?_
      refine va_get (D := (dC, dI)) (ci := 11) (v := .int (x0 6)) (C := RX11) (T := TX11) (N := 61) hx hb hts hin11 hown hK hP 0 rfl rfl 20 (Nat.le_of_ble_eq_true rfl) hw_3 (fun _ h9 => h9) rfl dX11_numberNow_30 ?_
      refine lv_isub hx hb dX11_numberNow_33 ?_
      have b5 : iv (-700) 700 ((x0 7) - (x0 6)) := iv_sub (hX 7 : iv 0 700 (x0 7)) (hX 6 : iv 0 700 (x0 6)) (by decide) (by decide) (by decide) (by decide)
      refine lv_iconst (v := 2) hx hb dX11_numberNow_34 ic_2 ?_
      refine lv_icmp_gt (tgt := 54) hx hb dX11_numberNow_35 rfl (fun c6 => ?_) (fun c6 => ?_)
      · have b7 : iv 3 700 ((x0 7) - (x0 6)) := iv_ltR c6 ivk_2 b5 (by decide) (by decide)
        refine lv_aload_n hx hb dX11_numberNow_54 rfl (lv_at hl 0 rfl) ?_
        refine lv_iconst (v := 2) hx hb dX11_numberNow_55 ic_2 ?_
        obtain ⟨hPc, hDc, hFc, hJn⟩ := cl_a (wc := [(m0, .inr (11, oX11 ra x0))]) (wr := []) hP hD hS hA [0] [] rfl rfl (by decide +kernel)
        refine va_callv (va_runV (As := [.int 2]) (rest := []) ⟨hx, hb, hml, hown, hts⟩ (s11_wrong l dC dI kB kI kJ kZ kC kS s.heap.size m0 ra x0 2 tT nN sS (hX) ((iv_w ivk_2 (by decide) (by decide))) (hRr)) (cwV 1 hts gX11_numberNow_X11_wrong rfl rfl rfl (by decide +kernel) ⟨Nat.le_of_ble_eq_true rfl, Nat.le_of_ble_eq_true rfl⟩) ⟨fun a U g mk q => by obtain ⟨q0, q1, qP, qE, qD⟩ := q; exact ⟨q0, q1, qP, kE_call qE, qD⟩, va_recv hK hP (ci := 11) (q0 := 0) rfl rfl, fun U hU hW => ⟨rfl, by rw [hU], by rw [hU]; exact hPc, kE_warm hW hE, hDc.weaken (fun _ _ _ _ => trivial)⟩⟩ rfl rfl hl.1 rfl (lv_room (Nat.le_of_ble_eq_true rfl)) dX11_numberNow_56 ⟨Nat.le_of_ble_eq_true rfl, Nat.le_of_ble_eq_true rfl⟩) hS (fun q _ h => hFc q h) hFc (fun u t H locs ht hvm w9 hB hz1 hk1 hS => ?_)
        obtain ⟨y10, hq11, hq12, hq13, hq14, hq15, hq16, hq17, hq18, hP1, hD1⟩ := hB
        try dsimp only at w9
        obtain ⟨hPa, hDa⟩ := hJn (w1 := [(m0, .inr (11, oX11 ra y10))]) hk1 ht hP1 hD1
        clear hP hD hPc hDc hFc hJn hP1 hD1 hk1
        have hP : va_P (dC, dI) vwCl [(m0, .inr (11, oX11 ra y10))] H := hPa
        have hD : va_D A [(m0, .inr (11, oX11 ra y10))] := hDa
        clear hPa hDa
        refine W.widen (k := 0) (n := 0) (Nat.le_of_ble_eq_true rfl) (Nat.le_of_ble_eq_true rfl) ?_
        refine lv_aload_n hx hb dX11_numberNow_59 rfl (lv_at hl 0 rfl) ?_
        refine va_get (D := (dC, dI)) (ci := 11) (v := .int (y10 8)) (C := RX11) (T := TX11) (N := 61) hx hb hts hin11 hown hK hP 0 rfl rfl 22 (Nat.le_of_ble_eq_true rfl) hw_0 (fun _ h9 => h9) rfl dX11_numberNow_60 ?_
        refine lv_if_ne (tgt := 73) hx hb dX11_numberNow_63 rfl (fun _ => ?_) (fun c9 => absurd c9 (iv_ne hq12 ivk_0 (by decide)))
        refine lv_iload_n hx hb dX11_numberNow_73 rfl (lv_at hl 1 rfl) ?_
        have hP9 := hP
        have hD9 := hD
        exact W.iret (v := 0) hx hb hr (fun t ht hW => ⟨⟨0, (), rfl, ⟨(iv_w ivk_0 (by decide) (by decide)), fun hk => (ok_fail ((nr_2 hRr c3 c6).symm ▸ hk)).elim⟩, y10, hq11, (show (y10 2).toInt = (x0 2).toInt from by omega), (show y10 3 = x0 3 from hq14), (show RRd tT nN y10 (numT tT 0 15 sS) from (nr_2 hRr c3 c6) ▸ hq15), (show y10 1 = x0 1 from hq16), (show y10 10 = x0 10 from hq17), (show y10 23 = x0 23 from hq18), by rw [ht]; exact hP9, hD9⟩, hS.F ht⟩) hS.2.2 dX11_numberNow_74
      · have b19 : iv (-700) 2 ((x0 7) - (x0 6)) := iv_leL (Int32.not_lt.mp c6) b5 ivk_2 (by decide) (by decide)
        refine lv_aload_n hx hb dX11_numberNow_38 rfl (lv_at hl 0 rfl) ?_
        refine va_get (D := (dC, dI)) (ci := 11) (v := .int (x0 5)) (C := RX11) (T := TX11) (N := 61) hx hb hts hin11 hown hK hP 0 rfl rfl 19 (Nat.le_of_ble_eq_true rfl) hw_4 (fun _ h9 => h9) rfl dX11_numberNow_39 ?_
        refine lv_iload_n hx hb dX11_numberNow_42 rfl (lv_at hl 1 rfl) ?_
        refine lv_icmp_lt (tgt := 54) hx hb dX11_numberNow_43 rfl (fun c20 => ?_) (fun c20 => ?_)
        · have b21 : iv (-2147483648) (-1) (x0 5) := iv_ltL c20 (hX 5 : iv (-2147483648) 2147483647 (x0 5)) ivk_0 (by decide) (by decide)
          refine lv_aload_n hx hb dX11_numberNow_54 rfl (lv_at hl 0 rfl) ?_
          refine lv_iconst (v := 2) hx hb dX11_numberNow_55 ic_2 ?_
          obtain ⟨hPc, hDc, hFc, hJn⟩ := cl_a (wc := [(m0, .inr (11, oX11 ra x0))]) (wr := []) hP hD hS hA [0] [] rfl rfl (by decide +kernel)
          refine va_callv (va_runV (As := [.int 2]) (rest := []) ⟨hx, hb, hml, hown, hts⟩ (s11_wrong l dC dI kB kI kJ kZ kC kS s.heap.size m0 ra x0 2 tT nN sS (hX) ((iv_w ivk_2 (by decide) (by decide))) (hRr)) (cwV 1 hts gX11_numberNow_X11_wrong rfl rfl rfl (by decide +kernel) ⟨Nat.le_of_ble_eq_true rfl, Nat.le_of_ble_eq_true rfl⟩) ⟨fun a U g mk q => by obtain ⟨q0, q1, qP, qE, qD⟩ := q; exact ⟨q0, q1, qP, kE_call qE, qD⟩, va_recv hK hP (ci := 11) (q0 := 0) rfl rfl, fun U hU hW => ⟨rfl, by rw [hU], by rw [hU]; exact hPc, kE_warm hW hE, hDc.weaken (fun _ _ _ _ => trivial)⟩⟩ rfl rfl hl.1 rfl (lv_room (Nat.le_of_ble_eq_true rfl)) dX11_numberNow_56 ⟨Nat.le_of_ble_eq_true rfl, Nat.le_of_ble_eq_true rfl⟩) hS (fun q _ h => hFc q h) hFc (fun u t H locs ht hvm w23 hB hz1 hk1 hS => ?_)
          obtain ⟨y24, hq25, hq26, hq27, hq28, hq29, hq30, hq31, hq32, hP1, hD1⟩ := hB
          try dsimp only at w23
          obtain ⟨hPa, hDa⟩ := hJn (w1 := [(m0, .inr (11, oX11 ra y24))]) hk1 ht hP1 hD1
          clear hP hD hPc hDc hFc hJn hP1 hD1 hk1
          have hP : va_P (dC, dI) vwCl [(m0, .inr (11, oX11 ra y24))] H := hPa
          have hD : va_D A [(m0, .inr (11, oX11 ra y24))] := hDa
          clear hPa hDa
          refine W.widen (k := 0) (n := 0) (Nat.le_of_ble_eq_true rfl) (Nat.le_of_ble_eq_true rfl) ?_
          refine lv_aload_n hx hb dX11_numberNow_59 rfl (lv_at hl 0 rfl) ?_
          refine va_get (D := (dC, dI)) (ci := 11) (v := .int (y24 8)) (C := RX11) (T := TX11) (N := 61) hx hb hts hin11 hown hK hP 0 rfl rfl 22 (Nat.le_of_ble_eq_true rfl) hw_0 (fun _ h9 => h9) rfl dX11_numberNow_60 ?_
          refine lv_if_ne (tgt := 73) hx hb dX11_numberNow_63 rfl (fun _ => ?_) (fun c9 => absurd c9 (iv_ne hq26 ivk_0 (by decide)))
          refine lv_iload_n hx hb dX11_numberNow_73 rfl (lv_at hl 1 rfl) ?_
          have hP9 := hP
          have hD9 := hD
          exact W.iret (v := 0) hx hb hr (fun t ht hW => ⟨⟨0, (), rfl, ⟨(iv_w ivk_0 (by decide) (by decide)), fun hk => (ok_fail ((nr_3 hRr c3 (Int32.not_lt.mp c6) (Or.inl c20)).symm ▸ hk)).elim⟩, y24, hq25, (show (y24 2).toInt = (x0 2).toInt from by omega), (show y24 3 = x0 3 from hq28), (show RRd tT nN y24 (numT tT 0 15 sS) from (nr_3 hRr c3 (Int32.not_lt.mp c6) (Or.inl c20)) ▸ hq29), (show y24 1 = x0 1 from hq30), (show y24 10 = x0 10 from hq31), (show y24 23 = x0 23 from hq32), by rw [ht]; exact hP9, hD9⟩, hS.F ht⟩) hS.2.2 dX11_numberNow_74
        · have b33 : iv 0 2147483647 (x0 5) := iv_leR (Int32.not_lt.mp c20) ivk_0 (hX 5 : iv (-2147483648) 2147483647 (x0 5)) (by decide) (by decide)
          refine lv_aload_n hx hb dX11_numberNow_46 rfl (lv_at hl 0 rfl) ?_
          refine va_get (D := (dC, dI)) (ci := 11) (v := .int (x0 5)) (C := RX11) (T := TX11) (N := 61) hx hb hts hin11 hown hK hP 0 rfl rfl 19 (Nat.le_of_ble_eq_true rfl) hw_4 (fun _ h9 => h9) rfl dX11_numberNow_47 ?_
          refine lv_iload_n hx hb dX11_numberNow_50 rfl (lv_at hl 2 rfl) ?_
          refine lv_icmp_le (tgt := 59) hx hb dX11_numberNow_51 rfl (fun c34 => ?_) (fun c34 => ?_)
          · have b35 : iv 0 15 (x0 5) := iv_leL c34 b33 ivk_15 (by decide) (by decide)
            refine lv_aload_n hx hb dX11_numberNow_59 rfl (lv_at hl 0 rfl) ?_
            refine va_get (D := (dC, dI)) (ci := 11) (v := .int (x0 8)) (C := RX11) (T := TX11) (N := 61) hx hb hts hin11 hown hK hP 0 rfl rfl 22 (Nat.le_of_ble_eq_true rfl) hw_0 (fun _ h9 => h9) rfl dX11_numberNow_60 ?_
            refine lv_if_ne (tgt := 73) hx hb dX11_numberNow_63 rfl (fun c9 => absurd (c1) c9) (fun _ => ?_)
            refine lv_aload_n hx hb dX11_numberNow_66 rfl (lv_at hl 0 rfl) ?_
            refine va_get (D := (dC, dI)) (ci := 11) (v := .int (x0 5)) (C := RX11) (T := TX11) (N := 61) hx hb hts hin11 hown hK hP 0 rfl rfl 19 (Nat.le_of_ble_eq_true rfl) hw_4 (fun _ h9 => h9) rfl dX11_numberNow_67 ?_
            refine lv_goto (tgt := 74) hx hb dX11_numberNow_70 rfl ?_
            have hP9 := hP
            have hD9 := hD
            exact W.iret (v := x0 5) hx hb hr (fun t ht hW => ⟨⟨x0 5, (), rfl, ⟨b35, fun _ => (nr_ok hRr c1 c3 (Int32.not_lt.mp c6) (Int32.not_lt.mp c20) c34).2⟩, x0, hX, (show (x0 2).toInt = (x0 2).toInt from by omega), (show x0 3 = x0 3 from rfl), (show RRd tT nN x0 (numT tT 0 15 sS) from (nr_ok hRr c1 c3 (Int32.not_lt.mp c6) (Int32.not_lt.mp c20) c34).1 ▸ hRr), (show x0 1 = x0 1 from rfl), (show x0 10 = x0 10 from rfl), (show x0 23 = x0 23 from rfl), by rw [ht]; exact hP9, hD9⟩, hS.F ht⟩) hS.2.2 dX11_numberNow_74
          · have b36 : iv 16 2147483647 (x0 5) := iv_ltR (Int32.not_le.mp c34) ivk_15 b33 (by decide) (by decide)
            refine lv_aload_n hx hb dX11_numberNow_54 rfl (lv_at hl 0 rfl) ?_
            refine lv_iconst (v := 2) hx hb dX11_numberNow_55 ic_2 ?_
            obtain ⟨hPc, hDc, hFc, hJn⟩ := cl_a (wc := [(m0, .inr (11, oX11 ra x0))]) (wr := []) hP hD hS hA [0] [] rfl rfl (by decide +kernel)
            refine va_callv (va_runV (As := [.int 2]) (rest := []) ⟨hx, hb, hml, hown, hts⟩ (s11_wrong l dC dI kB kI kJ kZ kC kS s.heap.size m0 ra x0 2 tT nN sS (hX) ((iv_w ivk_2 (by decide) (by decide))) (hRr)) (cwV 1 hts gX11_numberNow_X11_wrong rfl rfl rfl (by decide +kernel) ⟨Nat.le_of_ble_eq_true rfl, Nat.le_of_ble_eq_true rfl⟩) ⟨fun a U g mk q => by obtain ⟨q0, q1, qP, qE, qD⟩ := q; exact ⟨q0, q1, qP, kE_call qE, qD⟩, va_recv hK hP (ci := 11) (q0 := 0) rfl rfl, fun U hU hW => ⟨rfl, by rw [hU], by rw [hU]; exact hPc, kE_warm hW hE, hDc.weaken (fun _ _ _ _ => trivial)⟩⟩ rfl rfl hl.1 rfl (lv_room (Nat.le_of_ble_eq_true rfl)) dX11_numberNow_56 ⟨Nat.le_of_ble_eq_true rfl, Nat.le_of_ble_eq_true rfl⟩) hS (fun q _ h => hFc q h) hFc (fun u t H locs ht hvm w38 hB hz1 hk1 hS => ?_)
            obtain ⟨y39, hq40, hq41, hq42, hq43, hq44, hq45, hq46, hq47, hP1, hD1⟩ := hB
            try dsimp only at w38
            obtain ⟨hPa, hDa⟩ := hJn (w1 := [(m0, .inr (11, oX11 ra y39))]) hk1 ht hP1 hD1
            clear hP hD hPc hDc hFc hJn hP1 hD1 hk1
            have hP : va_P (dC, dI) vwCl [(m0, .inr (11, oX11 ra y39))] H := hPa
            have hD : va_D A [(m0, .inr (11, oX11 ra y39))] := hDa
            clear hPa hDa
            refine W.widen (k := 0) (n := 0) (Nat.le_of_ble_eq_true rfl) (Nat.le_of_ble_eq_true rfl) ?_
            refine lv_aload_n hx hb dX11_numberNow_59 rfl (lv_at hl 0 rfl) ?_
            refine va_get (D := (dC, dI)) (ci := 11) (v := .int (y39 8)) (C := RX11) (T := TX11) (N := 61) hx hb hts hin11 hown hK hP 0 rfl rfl 22 (Nat.le_of_ble_eq_true rfl) hw_0 (fun _ h9 => h9) rfl dX11_numberNow_60 ?_
            refine lv_if_ne (tgt := 73) hx hb dX11_numberNow_63 rfl (fun _ => ?_) (fun c9 => absurd c9 (iv_ne hq41 ivk_0 (by decide)))
            refine lv_iload_n hx hb dX11_numberNow_73 rfl (lv_at hl 1 rfl) ?_
            have hP9 := hP
            have hD9 := hD
            exact W.iret (v := 0) hx hb hr (fun t ht hW => ⟨⟨0, (), rfl, ⟨(iv_w ivk_0 (by decide) (by decide)), fun hk => (ok_fail ((nr_3 hRr c3 (Int32.not_lt.mp c6) (Or.inr (Int32.not_le.mp c34))).symm ▸ hk)).elim⟩, y39, hq40, (show (y39 2).toInt = (x0 2).toInt from by omega), (show y39 3 = x0 3 from hq43), (show RRd tT nN y39 (numT tT 0 15 sS) from (nr_3 hRr c3 (Int32.not_lt.mp c6) (Or.inr (Int32.not_le.mp c34))) ▸ hq44), (show y39 1 = x0 1 from hq45), (show y39 10 = x0 10 from hq46), (show y39 23 = x0 23 from hq47), by rw [ht]; exact hP9, hD9⟩, hS.F ht⟩) hS.2.2 dX11_numberNow_74
    · refine lv_aload_n hx hb dX11_numberNow_17 rfl (lv_at hl 0 rfl) ?_
      refine lv_iconst (v := 1) hx hb dX11_numberNow_18 ic_1 ?_
      obtain ⟨hPc, hDc, hFc, hJn⟩ := cl_a (wc := [(m0, .inr (11, oX11 ra x0))]) (wr := []) hP hD hS hA [0] [] rfl rfl (by decide +kernel)
      refine va_callv (va_runV (As := [.int 1]) (rest := []) ⟨hx, hb, hml, hown, hts⟩ (s11_wrong l dC dI kB kI kJ kZ kC kS s.heap.size m0 ra x0 1 tT nN sS (hX) ((iv_w ivk_1 (by decide) (by decide))) (hRr)) (cwV 1 hts gX11_numberNow_X11_wrong rfl rfl rfl (by decide +kernel) ⟨Nat.le_of_ble_eq_true rfl, Nat.le_of_ble_eq_true rfl⟩) ⟨fun a U g mk q => by obtain ⟨q0, q1, qP, qE, qD⟩ := q; exact ⟨q0, q1, qP, kE_call qE, qD⟩, va_recv hK hP (ci := 11) (q0 := 0) rfl rfl, fun U hU hW => ⟨rfl, by rw [hU], by rw [hU]; exact hPc, kE_warm hW hE, hDc.weaken (fun _ _ _ _ => trivial)⟩⟩ rfl rfl hl.1 rfl (lv_room (Nat.le_of_ble_eq_true rfl)) dX11_numberNow_19 ⟨Nat.le_of_ble_eq_true rfl, Nat.le_of_ble_eq_true rfl⟩) hS (fun q _ h => hFc q h) hFc (fun u t H locs ht hvm w49 hB hz1 hk1 hS => ?_)
      obtain ⟨y50, hq51, hq52, hq53, hq54, hq55, hq56, hq57, hq58, hP1, hD1⟩ := hB
      try dsimp only at w49
      obtain ⟨hPa, hDa⟩ := hJn (w1 := [(m0, .inr (11, oX11 ra y50))]) hk1 ht hP1 hD1
      clear hP hD hPc hDc hFc hJn hP1 hD1 hk1
      have hP : va_P (dC, dI) vwCl [(m0, .inr (11, oX11 ra y50))] H := hPa
      have hD : va_D A [(m0, .inr (11, oX11 ra y50))] := hDa
      clear hPa hDa
      refine W.widen (k := 0) (n := 0) (Nat.le_of_ble_eq_true rfl) (Nat.le_of_ble_eq_true rfl) ?_
      refine lv_goto (tgt := 59) hx hb dX11_numberNow_22 rfl ?_
      refine lv_aload_n hx hb dX11_numberNow_59 rfl (lv_at hl 0 rfl) ?_
      refine va_get (D := (dC, dI)) (ci := 11) (v := .int (y50 8)) (C := RX11) (T := TX11) (N := 61) hx hb hts hin11 hown hK hP 0 rfl rfl 22 (Nat.le_of_ble_eq_true rfl) hw_0 (fun _ h9 => h9) rfl dX11_numberNow_60 ?_
      refine lv_if_ne (tgt := 73) hx hb dX11_numberNow_63 rfl (fun _ => ?_) (fun c9 => absurd c9 (iv_ne hq52 ivk_0 (by decide)))
      refine lv_iload_n hx hb dX11_numberNow_73 rfl (lv_at hl 1 rfl) ?_
      have hP9 := hP
      have hD9 := hD
      exact W.iret (v := 0) hx hb hr (fun t ht hW => ⟨⟨0, (), rfl, ⟨(iv_w ivk_0 (by decide) (by decide)), fun hk => (ok_fail ((nr_1 hRr c3).symm ▸ hk)).elim⟩, y50, hq51, (show (y50 2).toInt = (x0 2).toInt from by omega), (show y50 3 = x0 3 from hq54), (show RRd tT nN y50 (numT tT 0 15 sS) from (nr_1 hRr c3) ▸ hq55), (show y50 1 = x0 1 from hq56), (show y50 10 = x0 10 from hq57), (show y50 23 = x0 23 from hq58), by rw [ht]; exact hP9, hD9⟩, hS.F ht⟩) hS.2.2 dX11_numberNow_74
  · have b59 : iv 1 5 (x0 8) := iv_neLo c1 (hX 8 : iv 0 5 (x0 8)) ivk_0 (by decide) (by decide)
    refine lv_iload_n hx hb dX11_numberNow_7 rfl (lv_at hl 1 rfl) ?_
    have hP9 := hP
    have hD9 := hD
    exact W.iret (v := 0) hx hb hr (fun t ht hW => ⟨⟨0, (), rfl, ⟨(iv_w ivk_0 (by decide) (by decide)), fun hk => absurd (ok_num hk) (rr_no hRr c1)⟩, x0, hX, (show (x0 2).toInt = (x0 2).toInt from by omega), (show x0 3 = x0 3 from rfl), (show RRd tT nN x0 (numT tT 0 15 sS) from nr_b hRr c1 ▸ hRr), (show x0 1 = x0 1 from rfl), (show x0 10 = x0 10 from rfl), (show x0 23 = x0 23 from rfl), by rw [ht]; exact hP9, hD9⟩, hS.F ht⟩) hS.2.2 dX11_numberNow_8
def rm_s11_numberNow_1_60 : Room := { frames := 1, cells := 0, slots := 0, locals := 21 }
set_option maxHeartbeats 4000000 in
set_option maxRecDepth 100000 in
theorem s11_numberNow_1_60 (l : Launch) (dC : Nat → ClassId) (dI : Nat → Nat → Nat) (kB kI kJ kZ kC kS : ClassId) (sz : Nat) (m0 : Nat) (ra : Nat → Nat) (x0 : Nat → Int32) (tT : Nat → Int32) (nN : Int32) (sS : StT) (hX : fI lX11 hX11 x0) (hRr : RRd tT nN x0 sS) : Met l yX11_numberNow wsX11_numberNow rm_s11_numberNow_1_60 (va_Pc [.ref m0, .int 1, .int 60] (fun U => U.heap.size = sz ∧ va_P (dC, dI) vwCl [(m0, .inr (11, oX11 ra x0))] U.heap ∧ kE dC dI kB kI kJ kZ kC kS U ∧ va_D (fun _ => True) [(m0, .inr (11, oX11 ra x0))])) (va_Qi (fun (r : Int32) (_ : Unit) => iv 1 60 r ∧ (okT (numT tT 1 60 sS) → r = valS tT sS)) (fun _ t => ∃ (x0' : Nat → Int32), fI lX11 hX11 x0' ∧ ((x0' 2).toInt = (x0 2).toInt) ∧ (x0' 3 = x0 3) ∧ (RRd tT nN x0' (numT tT 1 60 sS)) ∧ (x0' 1 = x0 1) ∧ (x0' 10 = x0 10) ∧ (x0' 23 = x0 23) ∧ va_P (dC, dI) vwCl [(m0, .inr (11, oX11 ra x0'))] t.heap ∧ va_D (va_A [(m0, .inr (11, oX11 ra x0))] sz) [(m0, .inr (11, oX11 ra x0'))]) (va_A [(m0, .inr (11, oX11 ra x0))] sz)) 0 0 (va_A [(m0, .inr (11, oX11 ra x0))] sz) := by
  refine Met.ofW (cc := cX11_numberNow) (maxL := 3) (ret := (some .int)) (by decide) rfl ?_
  intro p e s m args0 below meth c s₁ B hml hv
  obtain ⟨hargs, hsz, hP, hE, hD0⟩ := hv
  have hx := B.exec
  have hb := B.bytes
  have hr := B.returns
  have hts := atoms_spec (ws := wsX11_numberNow) B.pre
  have hown : s.vm.findClass RX11 = some m.cls := findClass_of_methodNamed B.named
  have hlocks := B.notSynchronized
  have hK := hE.1
  have hin11 : ∀ w ∈ wsX110, w ∈ wsX11_numberNow := fun _ h9 => List.mem_cons_of_mem _ (List.mem_append_right _ h9)
  have hw_0 := hts (.fieldLink RX11 184 "PathProberModel" "bad" "I") (List.mem_of_getElem? (i := 1) rfl)
  have hw_1 := hts (.fieldLink RX11 161 "PathProberModel" "token" "I") (List.mem_of_getElem? (i := 2) rfl)
  have hw_2 := hts (.fieldLink RX11 181 "PathProberModel" "stops" "I") (List.mem_of_getElem? (i := 3) rfl)
  have hw_3 := hts (.fieldLink RX11 158 "PathProberModel" "begins" "I") (List.mem_of_getElem? (i := 4) rfl)
  have hw_4 := hts (.fieldLink RX11 171 "PathProberModel" "number" "I") (List.mem_of_getElem? (i := 5) rfl)
  subst hsz
  have hD := hD0.self (sz := s.heap.size)
  generalize hAe : va_A [(m0, .inr (11, oX11 ra x0))] s.heap.size = A at hD ⊢
  have hA : ∀ q : Nat, s.heap.size ≤ q → A q := fun q h => by rw [← hAe]; exact Or.inr h
  have hS : va_S A s.heap s.heap [] := va_S.rf
  have hP : va_P (dC, dI) vwCl [(m0, .inr (11, oX11 ra x0))] s.heap := hP
  have hl := lv_entry ([.ref m0, .int 1, .int 60]) (n := 3) (Nat.le_of_ble_eq_true rfl)
  have hla : entryFrame m args0 3 = entryFrame m ([.ref m0, .int 1, .int 60] : List Value).toArray 3 := by rw [hargs]
  rw [hla, lg_entry_eq]
  generalize (lg_sl ([.ref m0, .int 1, .int 60]) ++ List.replicate (3 - (lg_sl ([.ref m0, .int 1, .int 60])).length) Slot.unset).toArray = ls at hl ⊢
  have hl : lv_has ls 3 [(0, .ref m0), (1, .int 1), (2, .int 60)] := hl
  refine lv_aload_n hx hb dX11_numberNow_0 rfl (lv_at hl 0 rfl) ?_
  refine va_get (D := (dC, dI)) (ci := 11) (v := .int (x0 8)) (C := RX11) (T := TX11) (N := 61) hx hb hts hin11 hown hK hP 0 rfl rfl 22 (Nat.le_of_ble_eq_true rfl) hw_0 (fun _ h9 => h9) rfl dX11_numberNow_1 ?_
  refine lv_if_eq (tgt := 9) hx hb dX11_numberNow_4 rfl (fun c1 => ?_) (fun c1 => ?_)
  · have b2 : iv 0 0 (x0 8) := iv_eqL c1 ivk_0
    refine lv_aload_n hx hb dX11_numberNow_9 rfl (lv_at hl 0 rfl) ?_
    refine va_get (D := (dC, dI)) (ci := 11) (v := .int (x0 4)) (C := RX11) (T := TX11) (N := 61) hx hb hts hin11 hown hK hP 0 rfl rfl 18 (Nat.le_of_ble_eq_true rfl) hw_1 (fun _ h9 => h9) rfl dX11_numberNow_10 ?_
    refine lv_iconst (v := 2) hx hb dX11_numberNow_13 ic_2 ?_
    refine lv_icmp_eq (tgt := 25) hx hb dX11_numberNow_14 rfl (fun c3 => ?_) (fun c3 => ?_)
    · have b4 : iv 2 2 (x0 4) := iv_eqL c3 ivk_2
      refine lv_aload_n hx hb dX11_numberNow_25 rfl (lv_at hl 0 rfl) ?_
      refine va_get (D := (dC, dI)) (ci := 11) (v := .int (x0 7)) (C := RX11) (T := TX11) (N := 61) hx hb hts hin11 hown hK hP 0 rfl rfl 21 (Nat.le_of_ble_eq_true rfl) hw_2 (fun _ h9 => h9) rfl dX11_numberNow_26 ?_
      refine lv_aload_n hx hb dX11_numberNow_29 rfl (lv_at hl 0 rfl) ?_
      refine va_get (D := (dC, dI)) (ci := 11) (v := .int (x0 6)) (C := RX11) (T := TX11) (N := 61) hx hb hts hin11 hown hK hP 0 rfl rfl 20 (Nat.le_of_ble_eq_true rfl) hw_3 (fun _ h9 => h9) rfl dX11_numberNow_30 ?_
      refine lv_isub hx hb dX11_numberNow_33 ?_
      have b5 : iv (-700) 700 ((x0 7) - (x0 6)) := iv_sub (hX 7 : iv 0 700 (x0 7)) (hX 6 : iv 0 700 (x0 6)) (by decide) (by decide) (by decide) (by decide)
      refine lv_iconst (v := 2) hx hb dX11_numberNow_34 ic_2 ?_
      refine lv_icmp_gt (tgt := 54) hx hb dX11_numberNow_35 rfl (fun c6 => ?_) (fun c6 => ?_)
      · have b7 : iv 3 700 ((x0 7) - (x0 6)) := iv_ltR c6 ivk_2 b5 (by decide) (by decide)
        refine lv_aload_n hx hb dX11_numberNow_54 rfl (lv_at hl 0 rfl) ?_
        refine lv_iconst (v := 2) hx hb dX11_numberNow_55 ic_2 ?_
        obtain ⟨hPc, hDc, hFc, hJn⟩ := cl_a (wc := [(m0, .inr (11, oX11 ra x0))]) (wr := []) hP hD hS hA [0] [] rfl rfl (by decide +kernel)
        refine va_callv (va_runV (As := [.int 2]) (rest := []) ⟨hx, hb, hml, hown, hts⟩ (s11_wrong l dC dI kB kI kJ kZ kC kS s.heap.size m0 ra x0 2 tT nN sS (hX) ((iv_w ivk_2 (by decide) (by decide))) (hRr)) (cwV 1 hts gX11_numberNow_X11_wrong rfl rfl rfl (by decide +kernel) ⟨Nat.le_of_ble_eq_true rfl, Nat.le_of_ble_eq_true rfl⟩) ⟨fun a U g mk q => by obtain ⟨q0, q1, qP, qE, qD⟩ := q; exact ⟨q0, q1, qP, kE_call qE, qD⟩, va_recv hK hP (ci := 11) (q0 := 0) rfl rfl, fun U hU hW => ⟨rfl, by rw [hU], by rw [hU]; exact hPc, kE_warm hW hE, hDc.weaken (fun _ _ _ _ => trivial)⟩⟩ rfl rfl hl.1 rfl (lv_room (Nat.le_of_ble_eq_true rfl)) dX11_numberNow_56 ⟨Nat.le_of_ble_eq_true rfl, Nat.le_of_ble_eq_true rfl⟩) hS (fun q _ h => hFc q h) hFc (fun u t H locs ht hvm w9 hB hz1 hk1 hS => ?_)
        obtain ⟨y10, hq11, hq12, hq13, hq14, hq15, hq16, hq17, hq18, hP1, hD1⟩ := hB
        try dsimp only at w9
        obtain ⟨hPa, hDa⟩ := hJn (w1 := [(m0, .inr (11, oX11 ra y10))]) hk1 ht hP1 hD1
        clear hP hD hPc hDc hFc hJn hP1 hD1 hk1
        have hP : va_P (dC, dI) vwCl [(m0, .inr (11, oX11 ra y10))] H := hPa
        have hD : va_D A [(m0, .inr (11, oX11 ra y10))] := hDa
        clear hPa hDa
        refine W.widen (k := 0) (n := 0) (Nat.le_of_ble_eq_true rfl) (Nat.le_of_ble_eq_true rfl) ?_
        refine lv_aload_n hx hb dX11_numberNow_59 rfl (lv_at hl 0 rfl) ?_
        refine va_get (D := (dC, dI)) (ci := 11) (v := .int (y10 8)) (C := RX11) (T := TX11) (N := 61) hx hb hts hin11 hown hK hP 0 rfl rfl 22 (Nat.le_of_ble_eq_true rfl) hw_0 (fun _ h9 => h9) rfl dX11_numberNow_60 ?_
        refine lv_if_ne (tgt := 73) hx hb dX11_numberNow_63 rfl (fun _ => ?_) (fun c9 => absurd c9 (iv_ne hq12 ivk_0 (by decide)))
        refine lv_iload_n hx hb dX11_numberNow_73 rfl (lv_at hl 1 rfl) ?_
        have hP9 := hP
        have hD9 := hD
        exact W.iret (v := 1) hx hb hr (fun t ht hW => ⟨⟨1, (), rfl, ⟨(iv_w ivk_1 (by decide) (by decide)), fun hk => (ok_fail ((nr_2 hRr c3 c6).symm ▸ hk)).elim⟩, y10, hq11, (show (y10 2).toInt = (x0 2).toInt from by omega), (show y10 3 = x0 3 from hq14), (show RRd tT nN y10 (numT tT 1 60 sS) from (nr_2 hRr c3 c6) ▸ hq15), (show y10 1 = x0 1 from hq16), (show y10 10 = x0 10 from hq17), (show y10 23 = x0 23 from hq18), by rw [ht]; exact hP9, hD9⟩, hS.F ht⟩) hS.2.2 dX11_numberNow_74
      · have b19 : iv (-700) 2 ((x0 7) - (x0 6)) := iv_leL (Int32.not_lt.mp c6) b5 ivk_2 (by decide) (by decide)
        refine lv_aload_n hx hb dX11_numberNow_38 rfl (lv_at hl 0 rfl) ?_
        refine va_get (D := (dC, dI)) (ci := 11) (v := .int (x0 5)) (C := RX11) (T := TX11) (N := 61) hx hb hts hin11 hown hK hP 0 rfl rfl 19 (Nat.le_of_ble_eq_true rfl) hw_4 (fun _ h9 => h9) rfl dX11_numberNow_39 ?_
        refine lv_iload_n hx hb dX11_numberNow_42 rfl (lv_at hl 1 rfl) ?_
        refine lv_icmp_lt (tgt := 54) hx hb dX11_numberNow_43 rfl (fun c20 => ?_) (fun c20 => ?_)
        · have b21 : iv (-2147483648) 0 (x0 5) := iv_ltL c20 (hX 5 : iv (-2147483648) 2147483647 (x0 5)) ivk_1 (by decide) (by decide)
          refine lv_aload_n hx hb dX11_numberNow_54 rfl (lv_at hl 0 rfl) ?_
          refine lv_iconst (v := 2) hx hb dX11_numberNow_55 ic_2 ?_
          obtain ⟨hPc, hDc, hFc, hJn⟩ := cl_a (wc := [(m0, .inr (11, oX11 ra x0))]) (wr := []) hP hD hS hA [0] [] rfl rfl (by decide +kernel)
          refine va_callv (va_runV (As := [.int 2]) (rest := []) ⟨hx, hb, hml, hown, hts⟩ (s11_wrong l dC dI kB kI kJ kZ kC kS s.heap.size m0 ra x0 2 tT nN sS (hX) ((iv_w ivk_2 (by decide) (by decide))) (hRr)) (cwV 1 hts gX11_numberNow_X11_wrong rfl rfl rfl (by decide +kernel) ⟨Nat.le_of_ble_eq_true rfl, Nat.le_of_ble_eq_true rfl⟩) ⟨fun a U g mk q => by obtain ⟨q0, q1, qP, qE, qD⟩ := q; exact ⟨q0, q1, qP, kE_call qE, qD⟩, va_recv hK hP (ci := 11) (q0 := 0) rfl rfl, fun U hU hW => ⟨rfl, by rw [hU], by rw [hU]; exact hPc, kE_warm hW hE, hDc.weaken (fun _ _ _ _ => trivial)⟩⟩ rfl rfl hl.1 rfl (lv_room (Nat.le_of_ble_eq_true rfl)) dX11_numberNow_56 ⟨Nat.le_of_ble_eq_true rfl, Nat.le_of_ble_eq_true rfl⟩) hS (fun q _ h => hFc q h) hFc (fun u t H locs ht hvm w23 hB hz1 hk1 hS => ?_)
          obtain ⟨y24, hq25, hq26, hq27, hq28, hq29, hq30, hq31, hq32, hP1, hD1⟩ := hB
          try dsimp only at w23
          obtain ⟨hPa, hDa⟩ := hJn (w1 := [(m0, .inr (11, oX11 ra y24))]) hk1 ht hP1 hD1
          clear hP hD hPc hDc hFc hJn hP1 hD1 hk1
          have hP : va_P (dC, dI) vwCl [(m0, .inr (11, oX11 ra y24))] H := hPa
          have hD : va_D A [(m0, .inr (11, oX11 ra y24))] := hDa
          clear hPa hDa
          refine W.widen (k := 0) (n := 0) (Nat.le_of_ble_eq_true rfl) (Nat.le_of_ble_eq_true rfl) ?_
          refine lv_aload_n hx hb dX11_numberNow_59 rfl (lv_at hl 0 rfl) ?_
          refine va_get (D := (dC, dI)) (ci := 11) (v := .int (y24 8)) (C := RX11) (T := TX11) (N := 61) hx hb hts hin11 hown hK hP 0 rfl rfl 22 (Nat.le_of_ble_eq_true rfl) hw_0 (fun _ h9 => h9) rfl dX11_numberNow_60 ?_
          refine lv_if_ne (tgt := 73) hx hb dX11_numberNow_63 rfl (fun _ => ?_) (fun c9 => absurd c9 (iv_ne hq26 ivk_0 (by decide)))
          refine lv_iload_n hx hb dX11_numberNow_73 rfl (lv_at hl 1 rfl) ?_
          have hP9 := hP
          have hD9 := hD
          exact W.iret (v := 1) hx hb hr (fun t ht hW => ⟨⟨1, (), rfl, ⟨(iv_w ivk_1 (by decide) (by decide)), fun hk => (ok_fail ((nr_3 hRr c3 (Int32.not_lt.mp c6) (Or.inl c20)).symm ▸ hk)).elim⟩, y24, hq25, (show (y24 2).toInt = (x0 2).toInt from by omega), (show y24 3 = x0 3 from hq28), (show RRd tT nN y24 (numT tT 1 60 sS) from (nr_3 hRr c3 (Int32.not_lt.mp c6) (Or.inl c20)) ▸ hq29), (show y24 1 = x0 1 from hq30), (show y24 10 = x0 10 from hq31), (show y24 23 = x0 23 from hq32), by rw [ht]; exact hP9, hD9⟩, hS.F ht⟩) hS.2.2 dX11_numberNow_74
        · have b33 : iv 1 2147483647 (x0 5) := iv_leR (Int32.not_lt.mp c20) ivk_1 (hX 5 : iv (-2147483648) 2147483647 (x0 5)) (by decide) (by decide)
          refine lv_aload_n hx hb dX11_numberNow_46 rfl (lv_at hl 0 rfl) ?_
          refine va_get (D := (dC, dI)) (ci := 11) (v := .int (x0 5)) (C := RX11) (T := TX11) (N := 61) hx hb hts hin11 hown hK hP 0 rfl rfl 19 (Nat.le_of_ble_eq_true rfl) hw_4 (fun _ h9 => h9) rfl dX11_numberNow_47 ?_
          refine lv_iload_n hx hb dX11_numberNow_50 rfl (lv_at hl 2 rfl) ?_
          refine lv_icmp_le (tgt := 59) hx hb dX11_numberNow_51 rfl (fun c34 => ?_) (fun c34 => ?_)
          · have b35 : iv 1 60 (x0 5) := iv_leL c34 b33 ivk_60 (by decide) (by decide)
            refine lv_aload_n hx hb dX11_numberNow_59 rfl (lv_at hl 0 rfl) ?_
            refine va_get (D := (dC, dI)) (ci := 11) (v := .int (x0 8)) (C := RX11) (T := TX11) (N := 61) hx hb hts hin11 hown hK hP 0 rfl rfl 22 (Nat.le_of_ble_eq_true rfl) hw_0 (fun _ h9 => h9) rfl dX11_numberNow_60 ?_
            refine lv_if_ne (tgt := 73) hx hb dX11_numberNow_63 rfl (fun c9 => absurd (c1) c9) (fun _ => ?_)
            refine lv_aload_n hx hb dX11_numberNow_66 rfl (lv_at hl 0 rfl) ?_
            refine va_get (D := (dC, dI)) (ci := 11) (v := .int (x0 5)) (C := RX11) (T := TX11) (N := 61) hx hb hts hin11 hown hK hP 0 rfl rfl 19 (Nat.le_of_ble_eq_true rfl) hw_4 (fun _ h9 => h9) rfl dX11_numberNow_67 ?_
            refine lv_goto (tgt := 74) hx hb dX11_numberNow_70 rfl ?_
            have hP9 := hP
            have hD9 := hD
            exact W.iret (v := x0 5) hx hb hr (fun t ht hW => ⟨⟨x0 5, (), rfl, ⟨b35, fun _ => (nr_ok hRr c1 c3 (Int32.not_lt.mp c6) (Int32.not_lt.mp c20) c34).2⟩, x0, hX, (show (x0 2).toInt = (x0 2).toInt from by omega), (show x0 3 = x0 3 from rfl), (show RRd tT nN x0 (numT tT 1 60 sS) from (nr_ok hRr c1 c3 (Int32.not_lt.mp c6) (Int32.not_lt.mp c20) c34).1 ▸ hRr), (show x0 1 = x0 1 from rfl), (show x0 10 = x0 10 from rfl), (show x0 23 = x0 23 from rfl), by rw [ht]; exact hP9, hD9⟩, hS.F ht⟩) hS.2.2 dX11_numberNow_74
          · have b36 : iv 61 2147483647 (x0 5) := iv_ltR (Int32.not_le.mp c34) ivk_60 b33 (by decide) (by decide)
            refine lv_aload_n hx hb dX11_numberNow_54 rfl (lv_at hl 0 rfl) ?_
            refine lv_iconst (v := 2) hx hb dX11_numberNow_55 ic_2 ?_
            obtain ⟨hPc, hDc, hFc, hJn⟩ := cl_a (wc := [(m0, .inr (11, oX11 ra x0))]) (wr := []) hP hD hS hA [0] [] rfl rfl (by decide +kernel)
            refine va_callv (va_runV (As := [.int 2]) (rest := []) ⟨hx, hb, hml, hown, hts⟩ (s11_wrong l dC dI kB kI kJ kZ kC kS s.heap.size m0 ra x0 2 tT nN sS (hX) ((iv_w ivk_2 (by decide) (by decide))) (hRr)) (cwV 1 hts gX11_numberNow_X11_wrong rfl rfl rfl (by decide +kernel) ⟨Nat.le_of_ble_eq_true rfl, Nat.le_of_ble_eq_true rfl⟩) ⟨fun a U g mk q => by obtain ⟨q0, q1, qP, qE, qD⟩ := q; exact ⟨q0, q1, qP, kE_call qE, qD⟩, va_recv hK hP (ci := 11) (q0 := 0) rfl rfl, fun U hU hW => ⟨rfl, by rw [hU], by rw [hU]; exact hPc, kE_warm hW hE, hDc.weaken (fun _ _ _ _ => trivial)⟩⟩ rfl rfl hl.1 rfl (lv_room (Nat.le_of_ble_eq_true rfl)) dX11_numberNow_56 ⟨Nat.le_of_ble_eq_true rfl, Nat.le_of_ble_eq_true rfl⟩) hS (fun q _ h => hFc q h) hFc (fun u t H locs ht hvm w38 hB hz1 hk1 hS => ?_)
            obtain ⟨y39, hq40, hq41, hq42, hq43, hq44, hq45, hq46, hq47, hP1, hD1⟩ := hB
            try dsimp only at w38
            obtain ⟨hPa, hDa⟩ := hJn (w1 := [(m0, .inr (11, oX11 ra y39))]) hk1 ht hP1 hD1
            clear hP hD hPc hDc hFc hJn hP1 hD1 hk1
            have hP : va_P (dC, dI) vwCl [(m0, .inr (11, oX11 ra y39))] H := hPa
            have hD : va_D A [(m0, .inr (11, oX11 ra y39))] := hDa
            clear hPa hDa
            refine W.widen (k := 0) (n := 0) (Nat.le_of_ble_eq_true rfl) (Nat.le_of_ble_eq_true rfl) ?_
            refine lv_aload_n hx hb dX11_numberNow_59 rfl (lv_at hl 0 rfl) ?_
            refine va_get (D := (dC, dI)) (ci := 11) (v := .int (y39 8)) (C := RX11) (T := TX11) (N := 61) hx hb hts hin11 hown hK hP 0 rfl rfl 22 (Nat.le_of_ble_eq_true rfl) hw_0 (fun _ h9 => h9) rfl dX11_numberNow_60 ?_
            refine lv_if_ne (tgt := 73) hx hb dX11_numberNow_63 rfl (fun _ => ?_) (fun c9 => absurd c9 (iv_ne hq41 ivk_0 (by decide)))
            refine lv_iload_n hx hb dX11_numberNow_73 rfl (lv_at hl 1 rfl) ?_
            have hP9 := hP
            have hD9 := hD
            exact W.iret (v := 1) hx hb hr (fun t ht hW => ⟨⟨1, (), rfl, ⟨(iv_w ivk_1 (by decide) (by decide)), fun hk => (ok_fail ((nr_3 hRr c3 (Int32.not_lt.mp c6) (Or.inr (Int32.not_le.mp c34))).symm ▸ hk)).elim⟩, y39, hq40, (show (y39 2).toInt = (x0 2).toInt from by omega), (show y39 3 = x0 3 from hq43), (show RRd tT nN y39 (numT tT 1 60 sS) from (nr_3 hRr c3 (Int32.not_lt.mp c6) (Or.inr (Int32.not_le.mp c34))) ▸ hq44), (show y39 1 = x0 1 from hq45), (show y39 10 = x0 10 from hq46), (show y39 23 = x0 23 from hq47), by rw [ht]; exact hP9, hD9⟩, hS.F ht⟩) hS.2.2 dX11_numberNow_74
    · refine lv_aload_n hx hb dX11_numberNow_17 rfl (lv_at hl 0 rfl) ?_
      refine lv_iconst (v := 1) hx hb dX11_numberNow_18 ic_1 ?_
      obtain ⟨hPc, hDc, hFc, hJn⟩ := cl_a (wc := [(m0, .inr (11, oX11 ra x0))]) (wr := []) hP hD hS hA [0] [] rfl rfl (by decide +kernel)
      refine va_callv (va_runV (As := [.int 1]) (rest := []) ⟨hx, hb, hml, hown, hts⟩ (s11_wrong l dC dI kB kI kJ kZ kC kS s.heap.size m0 ra x0 1 tT nN sS (hX) ((iv_w ivk_1 (by decide) (by decide))) (hRr)) (cwV 1 hts gX11_numberNow_X11_wrong rfl rfl rfl (by decide +kernel) ⟨Nat.le_of_ble_eq_true rfl, Nat.le_of_ble_eq_true rfl⟩) ⟨fun a U g mk q => by obtain ⟨q0, q1, qP, qE, qD⟩ := q; exact ⟨q0, q1, qP, kE_call qE, qD⟩, va_recv hK hP (ci := 11) (q0 := 0) rfl rfl, fun U hU hW => ⟨rfl, by rw [hU], by rw [hU]; exact hPc, kE_warm hW hE, hDc.weaken (fun _ _ _ _ => trivial)⟩⟩ rfl rfl hl.1 rfl (lv_room (Nat.le_of_ble_eq_true rfl)) dX11_numberNow_19 ⟨Nat.le_of_ble_eq_true rfl, Nat.le_of_ble_eq_true rfl⟩) hS (fun q _ h => hFc q h) hFc (fun u t H locs ht hvm w49 hB hz1 hk1 hS => ?_)
      obtain ⟨y50, hq51, hq52, hq53, hq54, hq55, hq56, hq57, hq58, hP1, hD1⟩ := hB
      try dsimp only at w49
      obtain ⟨hPa, hDa⟩ := hJn (w1 := [(m0, .inr (11, oX11 ra y50))]) hk1 ht hP1 hD1
      clear hP hD hPc hDc hFc hJn hP1 hD1 hk1
      have hP : va_P (dC, dI) vwCl [(m0, .inr (11, oX11 ra y50))] H := hPa
      have hD : va_D A [(m0, .inr (11, oX11 ra y50))] := hDa
      clear hPa hDa
      refine W.widen (k := 0) (n := 0) (Nat.le_of_ble_eq_true rfl) (Nat.le_of_ble_eq_true rfl) ?_
      refine lv_goto (tgt := 59) hx hb dX11_numberNow_22 rfl ?_
      refine lv_aload_n hx hb dX11_numberNow_59 rfl (lv_at hl 0 rfl) ?_
      refine va_get (D := (dC, dI)) (ci := 11) (v := .int (y50 8)) (C := RX11) (T := TX11) (N := 61) hx hb hts hin11 hown hK hP 0 rfl rfl 22 (Nat.le_of_ble_eq_true rfl) hw_0 (fun _ h9 => h9) rfl dX11_numberNow_60 ?_
      refine lv_if_ne (tgt := 73) hx hb dX11_numberNow_63 rfl (fun _ => ?_) (fun c9 => absurd c9 (iv_ne hq52 ivk_0 (by decide)))
      refine lv_iload_n hx hb dX11_numberNow_73 rfl (lv_at hl 1 rfl) ?_
      have hP9 := hP
      have hD9 := hD
      exact W.iret (v := 1) hx hb hr (fun t ht hW => ⟨⟨1, (), rfl, ⟨(iv_w ivk_1 (by decide) (by decide)), fun hk => (ok_fail ((nr_1 hRr c3).symm ▸ hk)).elim⟩, y50, hq51, (show (y50 2).toInt = (x0 2).toInt from by omega), (show y50 3 = x0 3 from hq54), (show RRd tT nN y50 (numT tT 1 60 sS) from (nr_1 hRr c3) ▸ hq55), (show y50 1 = x0 1 from hq56), (show y50 10 = x0 10 from hq57), (show y50 23 = x0 23 from hq58), by rw [ht]; exact hP9, hD9⟩, hS.F ht⟩) hS.2.2 dX11_numberNow_74
  · have b59 : iv 1 5 (x0 8) := iv_neLo c1 (hX 8 : iv 0 5 (x0 8)) ivk_0 (by decide) (by decide)
    refine lv_iload_n hx hb dX11_numberNow_7 rfl (lv_at hl 1 rfl) ?_
    have hP9 := hP
    have hD9 := hD
    exact W.iret (v := 1) hx hb hr (fun t ht hW => ⟨⟨1, (), rfl, ⟨(iv_w ivk_1 (by decide) (by decide)), fun hk => absurd (ok_num hk) (rr_no hRr c1)⟩, x0, hX, (show (x0 2).toInt = (x0 2).toInt from by omega), (show x0 3 = x0 3 from rfl), (show RRd tT nN x0 (numT tT 1 60 sS) from nr_b hRr c1 ▸ hRr), (show x0 1 = x0 1 from rfl), (show x0 10 = x0 10 from rfl), (show x0 23 = x0 23 from rfl), by rw [ht]; exact hP9, hD9⟩, hS.F ht⟩) hS.2.2 dX11_numberNow_8
def rm_s11_numberNow_1_50 : Room := { frames := 1, cells := 0, slots := 0, locals := 21 }
set_option maxHeartbeats 4000000 in
set_option maxRecDepth 100000 in
theorem s11_numberNow_1_50 (l : Launch) (dC : Nat → ClassId) (dI : Nat → Nat → Nat) (kB kI kJ kZ kC kS : ClassId) (sz : Nat) (m0 : Nat) (ra : Nat → Nat) (x0 : Nat → Int32) (tT : Nat → Int32) (nN : Int32) (sS : StT) (hX : fI lX11 hX11 x0) (hRr : RRd tT nN x0 sS) : Met l yX11_numberNow wsX11_numberNow rm_s11_numberNow_1_50 (va_Pc [.ref m0, .int 1, .int 50] (fun U => U.heap.size = sz ∧ va_P (dC, dI) vwCl [(m0, .inr (11, oX11 ra x0))] U.heap ∧ kE dC dI kB kI kJ kZ kC kS U ∧ va_D (fun _ => True) [(m0, .inr (11, oX11 ra x0))])) (va_Qi (fun (r : Int32) (_ : Unit) => iv 1 50 r ∧ (okT (numT tT 1 50 sS) → r = valS tT sS)) (fun _ t => ∃ (x0' : Nat → Int32), fI lX11 hX11 x0' ∧ ((x0' 2).toInt = (x0 2).toInt) ∧ (x0' 3 = x0 3) ∧ (RRd tT nN x0' (numT tT 1 50 sS)) ∧ (x0' 1 = x0 1) ∧ (x0' 10 = x0 10) ∧ (x0' 23 = x0 23) ∧ va_P (dC, dI) vwCl [(m0, .inr (11, oX11 ra x0'))] t.heap ∧ va_D (va_A [(m0, .inr (11, oX11 ra x0))] sz) [(m0, .inr (11, oX11 ra x0'))]) (va_A [(m0, .inr (11, oX11 ra x0))] sz)) 0 0 (va_A [(m0, .inr (11, oX11 ra x0))] sz) := by
  refine Met.ofW (cc := cX11_numberNow) (maxL := 3) (ret := (some .int)) (by decide) rfl ?_
  intro p e s m args0 below meth c s₁ B hml hv
  obtain ⟨hargs, hsz, hP, hE, hD0⟩ := hv
  have hx := B.exec
  have hb := B.bytes
  have hr := B.returns
  have hts := atoms_spec (ws := wsX11_numberNow) B.pre
  have hown : s.vm.findClass RX11 = some m.cls := findClass_of_methodNamed B.named
  have hlocks := B.notSynchronized
  have hK := hE.1
  have hin11 : ∀ w ∈ wsX110, w ∈ wsX11_numberNow := fun _ h9 => List.mem_cons_of_mem _ (List.mem_append_right _ h9)
  have hw_0 := hts (.fieldLink RX11 184 "PathProberModel" "bad" "I") (List.mem_of_getElem? (i := 1) rfl)
  have hw_1 := hts (.fieldLink RX11 161 "PathProberModel" "token" "I") (List.mem_of_getElem? (i := 2) rfl)
  have hw_2 := hts (.fieldLink RX11 181 "PathProberModel" "stops" "I") (List.mem_of_getElem? (i := 3) rfl)
  have hw_3 := hts (.fieldLink RX11 158 "PathProberModel" "begins" "I") (List.mem_of_getElem? (i := 4) rfl)
  have hw_4 := hts (.fieldLink RX11 171 "PathProberModel" "number" "I") (List.mem_of_getElem? (i := 5) rfl)
  subst hsz
  have hD := hD0.self (sz := s.heap.size)
  generalize hAe : va_A [(m0, .inr (11, oX11 ra x0))] s.heap.size = A at hD ⊢
  have hA : ∀ q : Nat, s.heap.size ≤ q → A q := fun q h => by rw [← hAe]; exact Or.inr h
  have hS : va_S A s.heap s.heap [] := va_S.rf
  have hP : va_P (dC, dI) vwCl [(m0, .inr (11, oX11 ra x0))] s.heap := hP
  have hl := lv_entry ([.ref m0, .int 1, .int 50]) (n := 3) (Nat.le_of_ble_eq_true rfl)
  have hla : entryFrame m args0 3 = entryFrame m ([.ref m0, .int 1, .int 50] : List Value).toArray 3 := by rw [hargs]
  rw [hla, lg_entry_eq]
  generalize (lg_sl ([.ref m0, .int 1, .int 50]) ++ List.replicate (3 - (lg_sl ([.ref m0, .int 1, .int 50])).length) Slot.unset).toArray = ls at hl ⊢
  have hl : lv_has ls 3 [(0, .ref m0), (1, .int 1), (2, .int 50)] := hl
  refine lv_aload_n hx hb dX11_numberNow_0 rfl (lv_at hl 0 rfl) ?_
  refine va_get (D := (dC, dI)) (ci := 11) (v := .int (x0 8)) (C := RX11) (T := TX11) (N := 61) hx hb hts hin11 hown hK hP 0 rfl rfl 22 (Nat.le_of_ble_eq_true rfl) hw_0 (fun _ h9 => h9) rfl dX11_numberNow_1 ?_
  refine lv_if_eq (tgt := 9) hx hb dX11_numberNow_4 rfl (fun c1 => ?_) (fun c1 => ?_)
  · have b2 : iv 0 0 (x0 8) := iv_eqL c1 ivk_0
    refine lv_aload_n hx hb dX11_numberNow_9 rfl (lv_at hl 0 rfl) ?_
    refine va_get (D := (dC, dI)) (ci := 11) (v := .int (x0 4)) (C := RX11) (T := TX11) (N := 61) hx hb hts hin11 hown hK hP 0 rfl rfl 18 (Nat.le_of_ble_eq_true rfl) hw_1 (fun _ h9 => h9) rfl dX11_numberNow_10 ?_
    refine lv_iconst (v := 2) hx hb dX11_numberNow_13 ic_2 ?_
    refine lv_icmp_eq (tgt := 25) hx hb dX11_numberNow_14 rfl (fun c3 => ?_) (fun c3 => ?_)
    · have b4 : iv 2 2 (x0 4) := iv_eqL c3 ivk_2
      refine lv_aload_n hx hb dX11_numberNow_25 rfl (lv_at hl 0 rfl) ?_
      refine va_get (D := (dC, dI)) (ci := 11) (v := .int (x0 7)) (C := RX11) (T := TX11) (N := 61) hx hb hts hin11 hown hK hP 0 rfl rfl 21 (Nat.le_of_ble_eq_true rfl) hw_2 (fun _ h9 => h9) rfl dX11_numberNow_26 ?_
      refine lv_aload_n hx hb dX11_numberNow_29 rfl (lv_at hl 0 rfl) ?_
      refine va_get (D := (dC, dI)) (ci := 11) (v := .int (x0 6)) (C := RX11) (T := TX11) (N := 61) hx hb hts hin11 hown hK hP 0 rfl rfl 20 (Nat.le_of_ble_eq_true rfl) hw_3 (fun _ h9 => h9) rfl dX11_numberNow_30 ?_
      refine lv_isub hx hb dX11_numberNow_33 ?_
      have b5 : iv (-700) 700 ((x0 7) - (x0 6)) := iv_sub (hX 7 : iv 0 700 (x0 7)) (hX 6 : iv 0 700 (x0 6)) (by decide) (by decide) (by decide) (by decide)
      refine lv_iconst (v := 2) hx hb dX11_numberNow_34 ic_2 ?_
      refine lv_icmp_gt (tgt := 54) hx hb dX11_numberNow_35 rfl (fun c6 => ?_) (fun c6 => ?_)
      · have b7 : iv 3 700 ((x0 7) - (x0 6)) := iv_ltR c6 ivk_2 b5 (by decide) (by decide)
        refine lv_aload_n hx hb dX11_numberNow_54 rfl (lv_at hl 0 rfl) ?_
        refine lv_iconst (v := 2) hx hb dX11_numberNow_55 ic_2 ?_
        obtain ⟨hPc, hDc, hFc, hJn⟩ := cl_a (wc := [(m0, .inr (11, oX11 ra x0))]) (wr := []) hP hD hS hA [0] [] rfl rfl (by decide +kernel)
        refine va_callv (va_runV (As := [.int 2]) (rest := []) ⟨hx, hb, hml, hown, hts⟩ (s11_wrong l dC dI kB kI kJ kZ kC kS s.heap.size m0 ra x0 2 tT nN sS (hX) ((iv_w ivk_2 (by decide) (by decide))) (hRr)) (cwV 1 hts gX11_numberNow_X11_wrong rfl rfl rfl (by decide +kernel) ⟨Nat.le_of_ble_eq_true rfl, Nat.le_of_ble_eq_true rfl⟩) ⟨fun a U g mk q => by obtain ⟨q0, q1, qP, qE, qD⟩ := q; exact ⟨q0, q1, qP, kE_call qE, qD⟩, va_recv hK hP (ci := 11) (q0 := 0) rfl rfl, fun U hU hW => ⟨rfl, by rw [hU], by rw [hU]; exact hPc, kE_warm hW hE, hDc.weaken (fun _ _ _ _ => trivial)⟩⟩ rfl rfl hl.1 rfl (lv_room (Nat.le_of_ble_eq_true rfl)) dX11_numberNow_56 ⟨Nat.le_of_ble_eq_true rfl, Nat.le_of_ble_eq_true rfl⟩) hS (fun q _ h => hFc q h) hFc (fun u t H locs ht hvm w9 hB hz1 hk1 hS => ?_)
        obtain ⟨y10, hq11, hq12, hq13, hq14, hq15, hq16, hq17, hq18, hP1, hD1⟩ := hB
        try dsimp only at w9
        obtain ⟨hPa, hDa⟩ := hJn (w1 := [(m0, .inr (11, oX11 ra y10))]) hk1 ht hP1 hD1
        clear hP hD hPc hDc hFc hJn hP1 hD1 hk1
        have hP : va_P (dC, dI) vwCl [(m0, .inr (11, oX11 ra y10))] H := hPa
        have hD : va_D A [(m0, .inr (11, oX11 ra y10))] := hDa
        clear hPa hDa
        refine W.widen (k := 0) (n := 0) (Nat.le_of_ble_eq_true rfl) (Nat.le_of_ble_eq_true rfl) ?_
        refine lv_aload_n hx hb dX11_numberNow_59 rfl (lv_at hl 0 rfl) ?_
        refine va_get (D := (dC, dI)) (ci := 11) (v := .int (y10 8)) (C := RX11) (T := TX11) (N := 61) hx hb hts hin11 hown hK hP 0 rfl rfl 22 (Nat.le_of_ble_eq_true rfl) hw_0 (fun _ h9 => h9) rfl dX11_numberNow_60 ?_
        refine lv_if_ne (tgt := 73) hx hb dX11_numberNow_63 rfl (fun _ => ?_) (fun c9 => absurd c9 (iv_ne hq12 ivk_0 (by decide)))
        refine lv_iload_n hx hb dX11_numberNow_73 rfl (lv_at hl 1 rfl) ?_
        have hP9 := hP
        have hD9 := hD
        exact W.iret (v := 1) hx hb hr (fun t ht hW => ⟨⟨1, (), rfl, ⟨(iv_w ivk_1 (by decide) (by decide)), fun hk => (ok_fail ((nr_2 hRr c3 c6).symm ▸ hk)).elim⟩, y10, hq11, (show (y10 2).toInt = (x0 2).toInt from by omega), (show y10 3 = x0 3 from hq14), (show RRd tT nN y10 (numT tT 1 50 sS) from (nr_2 hRr c3 c6) ▸ hq15), (show y10 1 = x0 1 from hq16), (show y10 10 = x0 10 from hq17), (show y10 23 = x0 23 from hq18), by rw [ht]; exact hP9, hD9⟩, hS.F ht⟩) hS.2.2 dX11_numberNow_74
      · have b19 : iv (-700) 2 ((x0 7) - (x0 6)) := iv_leL (Int32.not_lt.mp c6) b5 ivk_2 (by decide) (by decide)
        refine lv_aload_n hx hb dX11_numberNow_38 rfl (lv_at hl 0 rfl) ?_
        refine va_get (D := (dC, dI)) (ci := 11) (v := .int (x0 5)) (C := RX11) (T := TX11) (N := 61) hx hb hts hin11 hown hK hP 0 rfl rfl 19 (Nat.le_of_ble_eq_true rfl) hw_4 (fun _ h9 => h9) rfl dX11_numberNow_39 ?_
        refine lv_iload_n hx hb dX11_numberNow_42 rfl (lv_at hl 1 rfl) ?_
        refine lv_icmp_lt (tgt := 54) hx hb dX11_numberNow_43 rfl (fun c20 => ?_) (fun c20 => ?_)
        · have b21 : iv (-2147483648) 0 (x0 5) := iv_ltL c20 (hX 5 : iv (-2147483648) 2147483647 (x0 5)) ivk_1 (by decide) (by decide)
          refine lv_aload_n hx hb dX11_numberNow_54 rfl (lv_at hl 0 rfl) ?_
          refine lv_iconst (v := 2) hx hb dX11_numberNow_55 ic_2 ?_
          obtain ⟨hPc, hDc, hFc, hJn⟩ := cl_a (wc := [(m0, .inr (11, oX11 ra x0))]) (wr := []) hP hD hS hA [0] [] rfl rfl (by decide +kernel)
          refine va_callv (va_runV (As := [.int 2]) (rest := []) ⟨hx, hb, hml, hown, hts⟩ (s11_wrong l dC dI kB kI kJ kZ kC kS s.heap.size m0 ra x0 2 tT nN sS (hX) ((iv_w ivk_2 (by decide) (by decide))) (hRr)) (cwV 1 hts gX11_numberNow_X11_wrong rfl rfl rfl (by decide +kernel) ⟨Nat.le_of_ble_eq_true rfl, Nat.le_of_ble_eq_true rfl⟩) ⟨fun a U g mk q => by obtain ⟨q0, q1, qP, qE, qD⟩ := q; exact ⟨q0, q1, qP, kE_call qE, qD⟩, va_recv hK hP (ci := 11) (q0 := 0) rfl rfl, fun U hU hW => ⟨rfl, by rw [hU], by rw [hU]; exact hPc, kE_warm hW hE, hDc.weaken (fun _ _ _ _ => trivial)⟩⟩ rfl rfl hl.1 rfl (lv_room (Nat.le_of_ble_eq_true rfl)) dX11_numberNow_56 ⟨Nat.le_of_ble_eq_true rfl, Nat.le_of_ble_eq_true rfl⟩) hS (fun q _ h => hFc q h) hFc (fun u t H locs ht hvm w23 hB hz1 hk1 hS => ?_)
          obtain ⟨y24, hq25, hq26, hq27, hq28, hq29, hq30, hq31, hq32, hP1, hD1⟩ := hB
          try dsimp only at w23
          obtain ⟨hPa, hDa⟩ := hJn (w1 := [(m0, .inr (11, oX11 ra y24))]) hk1 ht hP1 hD1
          clear hP hD hPc hDc hFc hJn hP1 hD1 hk1
          have hP : va_P (dC, dI) vwCl [(m0, .inr (11, oX11 ra y24))] H := hPa
          have hD : va_D A [(m0, .inr (11, oX11 ra y24))] := hDa
          clear hPa hDa
          refine W.widen (k := 0) (n := 0) (Nat.le_of_ble_eq_true rfl) (Nat.le_of_ble_eq_true rfl) ?_
          refine lv_aload_n hx hb dX11_numberNow_59 rfl (lv_at hl 0 rfl) ?_
          refine va_get (D := (dC, dI)) (ci := 11) (v := .int (y24 8)) (C := RX11) (T := TX11) (N := 61) hx hb hts hin11 hown hK hP 0 rfl rfl 22 (Nat.le_of_ble_eq_true rfl) hw_0 (fun _ h9 => h9) rfl dX11_numberNow_60 ?_
          refine lv_if_ne (tgt := 73) hx hb dX11_numberNow_63 rfl (fun _ => ?_) (fun c9 => absurd c9 (iv_ne hq26 ivk_0 (by decide)))
          refine lv_iload_n hx hb dX11_numberNow_73 rfl (lv_at hl 1 rfl) ?_
          have hP9 := hP
          have hD9 := hD
          exact W.iret (v := 1) hx hb hr (fun t ht hW => ⟨⟨1, (), rfl, ⟨(iv_w ivk_1 (by decide) (by decide)), fun hk => (ok_fail ((nr_3 hRr c3 (Int32.not_lt.mp c6) (Or.inl c20)).symm ▸ hk)).elim⟩, y24, hq25, (show (y24 2).toInt = (x0 2).toInt from by omega), (show y24 3 = x0 3 from hq28), (show RRd tT nN y24 (numT tT 1 50 sS) from (nr_3 hRr c3 (Int32.not_lt.mp c6) (Or.inl c20)) ▸ hq29), (show y24 1 = x0 1 from hq30), (show y24 10 = x0 10 from hq31), (show y24 23 = x0 23 from hq32), by rw [ht]; exact hP9, hD9⟩, hS.F ht⟩) hS.2.2 dX11_numberNow_74
        · have b33 : iv 1 2147483647 (x0 5) := iv_leR (Int32.not_lt.mp c20) ivk_1 (hX 5 : iv (-2147483648) 2147483647 (x0 5)) (by decide) (by decide)
          refine lv_aload_n hx hb dX11_numberNow_46 rfl (lv_at hl 0 rfl) ?_
          refine va_get (D := (dC, dI)) (ci := 11) (v := .int (x0 5)) (C := RX11) (T := TX11) (N := 61) hx hb hts hin11 hown hK hP 0 rfl rfl 19 (Nat.le_of_ble_eq_true rfl) hw_4 (fun _ h9 => h9) rfl dX11_numberNow_47 ?_
          refine lv_iload_n hx hb dX11_numberNow_50 rfl (lv_at hl 2 rfl) ?_
          refine lv_icmp_le (tgt := 59) hx hb dX11_numberNow_51 rfl (fun c34 => ?_) (fun c34 => ?_)
          · have b35 : iv 1 50 (x0 5) := iv_leL c34 b33 ivk_50 (by decide) (by decide)
            refine lv_aload_n hx hb dX11_numberNow_59 rfl (lv_at hl 0 rfl) ?_
            refine va_get (D := (dC, dI)) (ci := 11) (v := .int (x0 8)) (C := RX11) (T := TX11) (N := 61) hx hb hts hin11 hown hK hP 0 rfl rfl 22 (Nat.le_of_ble_eq_true rfl) hw_0 (fun _ h9 => h9) rfl dX11_numberNow_60 ?_
            refine lv_if_ne (tgt := 73) hx hb dX11_numberNow_63 rfl (fun c9 => absurd (c1) c9) (fun _ => ?_)
            refine lv_aload_n hx hb dX11_numberNow_66 rfl (lv_at hl 0 rfl) ?_
            refine va_get (D := (dC, dI)) (ci := 11) (v := .int (x0 5)) (C := RX11) (T := TX11) (N := 61) hx hb hts hin11 hown hK hP 0 rfl rfl 19 (Nat.le_of_ble_eq_true rfl) hw_4 (fun _ h9 => h9) rfl dX11_numberNow_67 ?_
            refine lv_goto (tgt := 74) hx hb dX11_numberNow_70 rfl ?_
            have hP9 := hP
            have hD9 := hD
            exact W.iret (v := x0 5) hx hb hr (fun t ht hW => ⟨⟨x0 5, (), rfl, ⟨b35, fun _ => (nr_ok hRr c1 c3 (Int32.not_lt.mp c6) (Int32.not_lt.mp c20) c34).2⟩, x0, hX, (show (x0 2).toInt = (x0 2).toInt from by omega), (show x0 3 = x0 3 from rfl), (show RRd tT nN x0 (numT tT 1 50 sS) from (nr_ok hRr c1 c3 (Int32.not_lt.mp c6) (Int32.not_lt.mp c20) c34).1 ▸ hRr), (show x0 1 = x0 1 from rfl), (show x0 10 = x0 10 from rfl), (show x0 23 = x0 23 from rfl), by rw [ht]; exact hP9, hD9⟩, hS.F ht⟩) hS.2.2 dX11_numberNow_74
          · have b36 : iv 51 2147483647 (x0 5) := iv_ltR (Int32.not_le.mp c34) ivk_50 b33 (by decide) (by decide)
            refine lv_aload_n hx hb dX11_numberNow_54 rfl (lv_at hl 0 rfl) ?_
            refine lv_iconst (v := 2) hx hb dX11_numberNow_55 ic_2 ?_
            obtain ⟨hPc, hDc, hFc, hJn⟩ := cl_a (wc := [(m0, .inr (11, oX11 ra x0))]) (wr := []) hP hD hS hA [0] [] rfl rfl (by decide +kernel)
            refine va_callv (va_runV (As := [.int 2]) (rest := []) ⟨hx, hb, hml, hown, hts⟩ (s11_wrong l dC dI kB kI kJ kZ kC kS s.heap.size m0 ra x0 2 tT nN sS (hX) ((iv_w ivk_2 (by decide) (by decide))) (hRr)) (cwV 1 hts gX11_numberNow_X11_wrong rfl rfl rfl (by decide +kernel) ⟨Nat.le_of_ble_eq_true rfl, Nat.le_of_ble_eq_true rfl⟩) ⟨fun a U g mk q => by obtain ⟨q0, q1, qP, qE, qD⟩ := q; exact ⟨q0, q1, qP, kE_call qE, qD⟩, va_recv hK hP (ci := 11) (q0 := 0) rfl rfl, fun U hU hW => ⟨rfl, by rw [hU], by rw [hU]; exact hPc, kE_warm hW hE, hDc.weaken (fun _ _ _ _ => trivial)⟩⟩ rfl rfl hl.1 rfl (lv_room (Nat.le_of_ble_eq_true rfl)) dX11_numberNow_56 ⟨Nat.le_of_ble_eq_true rfl, Nat.le_of_ble_eq_true rfl⟩) hS (fun q _ h => hFc q h) hFc (fun u t H locs ht hvm w38 hB hz1 hk1 hS => ?_)
            obtain ⟨y39, hq40, hq41, hq42, hq43, hq44, hq45, hq46, hq47, hP1, hD1⟩ := hB
            try dsimp only at w38
            obtain ⟨hPa, hDa⟩ := hJn (w1 := [(m0, .inr (11, oX11 ra y39))]) hk1 ht hP1 hD1
            clear hP hD hPc hDc hFc hJn hP1 hD1 hk1
            have hP : va_P (dC, dI) vwCl [(m0, .inr (11, oX11 ra y39))] H := hPa
            have hD : va_D A [(m0, .inr (11, oX11 ra y39))] := hDa
            clear hPa hDa
            refine W.widen (k := 0) (n := 0) (Nat.le_of_ble_eq_true rfl) (Nat.le_of_ble_eq_true rfl) ?_
            refine lv_aload_n hx hb dX11_numberNow_59 rfl (lv_at hl 0 rfl) ?_
            refine va_get (D := (dC, dI)) (ci := 11) (v := .int (y39 8)) (C := RX11) (T := TX11) (N := 61) hx hb hts hin11 hown hK hP 0 rfl rfl 22 (Nat.le_of_ble_eq_true rfl) hw_0 (fun _ h9 => h9) rfl dX11_numberNow_60 ?_
            refine lv_if_ne (tgt := 73) hx hb dX11_numberNow_63 rfl (fun _ => ?_) (fun c9 => absurd c9 (iv_ne hq41 ivk_0 (by decide)))
            refine lv_iload_n hx hb dX11_numberNow_73 rfl (lv_at hl 1 rfl) ?_
            have hP9 := hP
            have hD9 := hD
            exact W.iret (v := 1) hx hb hr (fun t ht hW => ⟨⟨1, (), rfl, ⟨(iv_w ivk_1 (by decide) (by decide)), fun hk => (ok_fail ((nr_3 hRr c3 (Int32.not_lt.mp c6) (Or.inr (Int32.not_le.mp c34))).symm ▸ hk)).elim⟩, y39, hq40, (show (y39 2).toInt = (x0 2).toInt from by omega), (show y39 3 = x0 3 from hq43), (show RRd tT nN y39 (numT tT 1 50 sS) from (nr_3 hRr c3 (Int32.not_lt.mp c6) (Or.inr (Int32.not_le.mp c34))) ▸ hq44), (show y39 1 = x0 1 from hq45), (show y39 10 = x0 10 from hq46), (show y39 23 = x0 23 from hq47), by rw [ht]; exact hP9, hD9⟩, hS.F ht⟩) hS.2.2 dX11_numberNow_74
    · refine lv_aload_n hx hb dX11_numberNow_17 rfl (lv_at hl 0 rfl) ?_
      refine lv_iconst (v := 1) hx hb dX11_numberNow_18 ic_1 ?_
      obtain ⟨hPc, hDc, hFc, hJn⟩ := cl_a (wc := [(m0, .inr (11, oX11 ra x0))]) (wr := []) hP hD hS hA [0] [] rfl rfl (by decide +kernel)
      refine va_callv (va_runV (As := [.int 1]) (rest := []) ⟨hx, hb, hml, hown, hts⟩ (s11_wrong l dC dI kB kI kJ kZ kC kS s.heap.size m0 ra x0 1 tT nN sS (hX) ((iv_w ivk_1 (by decide) (by decide))) (hRr)) (cwV 1 hts gX11_numberNow_X11_wrong rfl rfl rfl (by decide +kernel) ⟨Nat.le_of_ble_eq_true rfl, Nat.le_of_ble_eq_true rfl⟩) ⟨fun a U g mk q => by obtain ⟨q0, q1, qP, qE, qD⟩ := q; exact ⟨q0, q1, qP, kE_call qE, qD⟩, va_recv hK hP (ci := 11) (q0 := 0) rfl rfl, fun U hU hW => ⟨rfl, by rw [hU], by rw [hU]; exact hPc, kE_warm hW hE, hDc.weaken (fun _ _ _ _ => trivial)⟩⟩ rfl rfl hl.1 rfl (lv_room (Nat.le_of_ble_eq_true rfl)) dX11_numberNow_19 ⟨Nat.le_of_ble_eq_true rfl, Nat.le_of_ble_eq_true rfl⟩) hS (fun q _ h => hFc q h) hFc (fun u t H locs ht hvm w49 hB hz1 hk1 hS => ?_)
      obtain ⟨y50, hq51, hq52, hq53, hq54, hq55, hq56, hq57, hq58, hP1, hD1⟩ := hB
      try dsimp only at w49
      obtain ⟨hPa, hDa⟩ := hJn (w1 := [(m0, .inr (11, oX11 ra y50))]) hk1 ht hP1 hD1
      clear hP hD hPc hDc hFc hJn hP1 hD1 hk1
      have hP : va_P (dC, dI) vwCl [(m0, .inr (11, oX11 ra y50))] H := hPa
      have hD : va_D A [(m0, .inr (11, oX11 ra y50))] := hDa
      clear hPa hDa
      refine W.widen (k := 0) (n := 0) (Nat.le_of_ble_eq_true rfl) (Nat.le_of_ble_eq_true rfl) ?_
      refine lv_goto (tgt := 59) hx hb dX11_numberNow_22 rfl ?_
      refine lv_aload_n hx hb dX11_numberNow_59 rfl (lv_at hl 0 rfl) ?_
      refine va_get (D := (dC, dI)) (ci := 11) (v := .int (y50 8)) (C := RX11) (T := TX11) (N := 61) hx hb hts hin11 hown hK hP 0 rfl rfl 22 (Nat.le_of_ble_eq_true rfl) hw_0 (fun _ h9 => h9) rfl dX11_numberNow_60 ?_
      refine lv_if_ne (tgt := 73) hx hb dX11_numberNow_63 rfl (fun _ => ?_) (fun c9 => absurd c9 (iv_ne hq52 ivk_0 (by decide)))
      refine lv_iload_n hx hb dX11_numberNow_73 rfl (lv_at hl 1 rfl) ?_
      have hP9 := hP
      have hD9 := hD
      exact W.iret (v := 1) hx hb hr (fun t ht hW => ⟨⟨1, (), rfl, ⟨(iv_w ivk_1 (by decide) (by decide)), fun hk => (ok_fail ((nr_1 hRr c3).symm ▸ hk)).elim⟩, y50, hq51, (show (y50 2).toInt = (x0 2).toInt from by omega), (show y50 3 = x0 3 from hq54), (show RRd tT nN y50 (numT tT 1 50 sS) from (nr_1 hRr c3) ▸ hq55), (show y50 1 = x0 1 from hq56), (show y50 10 = x0 10 from hq57), (show y50 23 = x0 23 from hq58), by rw [ht]; exact hP9, hD9⟩, hS.F ht⟩) hS.2.2 dX11_numberNow_74
  · have b59 : iv 1 5 (x0 8) := iv_neLo c1 (hX 8 : iv 0 5 (x0 8)) ivk_0 (by decide) (by decide)
    refine lv_iload_n hx hb dX11_numberNow_7 rfl (lv_at hl 1 rfl) ?_
    have hP9 := hP
    have hD9 := hD
    exact W.iret (v := 1) hx hb hr (fun t ht hW => ⟨⟨1, (), rfl, ⟨(iv_w ivk_1 (by decide) (by decide)), fun hk => absurd (ok_num hk) (rr_no hRr c1)⟩, x0, hX, (show (x0 2).toInt = (x0 2).toInt from by omega), (show x0 3 = x0 3 from rfl), (show RRd tT nN x0 (numT tT 1 50 sS) from nr_b hRr c1 ▸ hRr), (show x0 1 = x0 1 from rfl), (show x0 10 = x0 10 from rfl), (show x0 23 = x0 23 from rfl), by rw [ht]; exact hP9, hD9⟩, hS.F ht⟩) hS.2.2 dX11_numberNow_8
def rm_s11_readNumber_0_15 : Room := { frames := 2, cells := 0, slots := 0, locals := 43 }
set_option maxHeartbeats 4000000 in
set_option maxRecDepth 100000 in
theorem s11_readNumber_0_15 (l : Launch) (dC : Nat → ClassId) (dI : Nat → Nat → Nat) (kB kI kJ kZ kC kS : ClassId) (sz : Nat) (m0 : Nat) (ra : Nat → Nat) (x0 : Nat → Int32) (q_tape : Nat → Int32) (tT : Nat → Int32) (nN : Int32) (sS : StT) (hX : fI lX11 hX11 x0) (hq_tape : fI (fun _ => 0) (fun _ => 255) q_tape) (hRr : RRd tT nN x0 sS) (hTQ : tT = q_tape) : Met l yX11_readNumber wsX11_readNumber rm_s11_readNumber_0_15 (va_Pc [.ref m0, .int 0, .int 15] (fun U => U.heap.size = sz ∧ va_P (dC, dI) vwCl [(m0, .inr (11, oX11 ra x0)), (ra 13, .inl (kI, 700, .inl q_tape))] U.heap ∧ kE dC dI kB kI kJ kZ kC kS U ∧ va_D (fun _ => True) [(m0, .inr (11, oX11 ra x0)), (ra 13, .inl (kI, 700, .inl q_tape))])) (va_Qi (fun (r : Int32) (_ : Unit) => iv 0 15 r ∧ (okT (numT tT 0 15 sS) → r = valS tT sS)) (fun _ t => ∃ (x0' : Nat → Int32), fI lX11 hX11 x0' ∧ ((x0 2).toInt ≤ (x0' 2).toInt) ∧ (x0' 3 = x0 3) ∧ (RRd tT nN x0' (nextT tT nN (numT tT 0 15 sS))) ∧ (x0' 1 = x0 1) ∧ (x0' 10 = x0 10) ∧ (x0' 23 = x0 23) ∧ va_P (dC, dI) vwCl [(m0, .inr (11, oX11 ra x0')), (ra 13, .inl (kI, 700, .inl q_tape))] t.heap ∧ va_D (va_A [(m0, .inr (11, oX11 ra x0)), (ra 13, .inl (kI, 700, .inl q_tape))] sz) [(m0, .inr (11, oX11 ra x0')), (ra 13, .inl (kI, 700, .inl q_tape))]) (va_A [(m0, .inr (11, oX11 ra x0)), (ra 13, .inl (kI, 700, .inl q_tape))] sz)) 0 0 (va_A [(m0, .inr (11, oX11 ra x0)), (ra 13, .inl (kI, 700, .inl q_tape))] sz) := by
  refine Met.ofW (cc := cX11_readNumber) (maxL := 4) (ret := (some .int)) (by decide) rfl ?_
  intro p e s m args0 below meth c s₁ B hml hv
  obtain ⟨hargs, hsz, hP, hE, hD0⟩ := hv
  have hx := B.exec
  have hb := B.bytes
  have hr := B.returns
  have hts := atoms_spec (ws := wsX11_readNumber) B.pre
  have hown : s.vm.findClass RX11 = some m.cls := findClass_of_methodNamed B.named
  have hlocks := B.notSynchronized
  have hK := hE.1
  have hin11 : ∀ w ∈ wsX110, w ∈ wsX11_readNumber := fun _ h9 => List.mem_cons_of_mem _ (List.mem_append_right _ h9)
  have hw_0 := hts (.fieldLink RX11 184 "PathProberModel" "bad" "I") (List.mem_of_getElem? (i := 1) rfl)
  subst hsz
  have hD := hD0.self (sz := s.heap.size)
  generalize hAe : va_A [(m0, .inr (11, oX11 ra x0)), (ra 13, .inl (kI, 700, .inl q_tape))] s.heap.size = A at hD ⊢
  have hA : ∀ q : Nat, s.heap.size ≤ q → A q := fun q h => by rw [← hAe]; exact Or.inr h
  have hS : va_S A s.heap s.heap [] := va_S.rf
  have hP : va_P (dC, dI) vwCl [(m0, .inr (11, oX11 ra x0)), (ra 13, .inl (kI, 700, .inl q_tape))] s.heap := hP
  have hl := lv_entry ([.ref m0, .int 0, .int 15]) (n := 4) (Nat.le_of_ble_eq_true rfl)
  have hla : entryFrame m args0 4 = entryFrame m ([.ref m0, .int 0, .int 15] : List Value).toArray 4 := by rw [hargs]
  rw [hla, lg_entry_eq]
  generalize (lg_sl ([.ref m0, .int 0, .int 15]) ++ List.replicate (4 - (lg_sl ([.ref m0, .int 0, .int 15])).length) Slot.unset).toArray = ls at hl ⊢
  have hl : lv_has ls 4 [(0, .ref m0), (1, .int 0), (2, .int 15)] := hl
  refine lv_aload_n hx hb dX11_readNumber_0 rfl (lv_at hl 0 rfl) ?_
  refine lv_iload_n hx hb dX11_readNumber_1 rfl (lv_at hl 1 rfl) ?_
  refine lv_iload_n hx hb dX11_readNumber_2 rfl (lv_at hl 2 rfl) ?_
  obtain ⟨hPc, hDc, hFc, hJn⟩ := cl_a (wc := [(m0, .inr (11, oX11 ra x0))]) (wr := [(ra 13, .inl (kI, 700, .inl q_tape))]) hP hD hS hA [0] [1] rfl rfl (by decide +kernel)
  refine va_calli (va_runV (As := [.int 0, .int 15]) (rest := []) ⟨hx, hb, hml, hown, hts⟩ (s11_numberNow_0_15 l dC dI kB kI kJ kZ kC kS s.heap.size m0 ra x0 tT nN sS (hX) (hRr)) (cwV 2 hts gX11_readNumber_X11_numberNow rfl rfl rfl (by decide +kernel) ⟨Nat.le_of_ble_eq_true rfl, Nat.le_of_ble_eq_true rfl⟩) ⟨fun a U g mk q => by obtain ⟨q0, q1, qP, qE, qD⟩ := q; exact ⟨q0, q1, qP, kE_call qE, qD⟩, va_recv hK hP (ci := 11) (q0 := 0) rfl rfl, fun U hU hW => ⟨rfl, by rw [hU], by rw [hU]; exact hPc, kE_warm hW hE, hDc.weaken (fun _ _ _ _ => trivial)⟩⟩ rfl rfl hl.1 rfl (lv_room (Nat.le_of_ble_eq_true rfl)) dX11_readNumber_3 ⟨Nat.le_of_ble_eq_true rfl, Nat.le_of_ble_eq_true rfl⟩) hS (fun q _ h => hFc q h) hFc (fun r1 u t H locs ht hvm w2 hB hz1 hk1 hS => ?_)
  obtain ⟨y3, hq4, hq5, hq6, hq7, hq8, hq9, hq10, hP1, hD1⟩ := hB
  try dsimp only at w2
  obtain ⟨hPa, hDa⟩ := hJn (w1 := [(m0, .inr (11, oX11 ra y3))]) hk1 ht hP1 hD1
  clear hP hD hPc hDc hFc hJn hP1 hD1 hk1
  have hP : va_P (dC, dI) vwCl [(ra 13, .inl (kI, 700, .inl q_tape)), (m0, .inr (11, oX11 ra y3))] H := hPa
  have hD : va_D A [(ra 13, .inl (kI, 700, .inl q_tape)), (m0, .inr (11, oX11 ra y3))] := hDa
  clear hPa hDa
  refine W.widen (k := 0) (n := 0) (Nat.le_of_ble_eq_true rfl) (Nat.le_of_ble_eq_true rfl) ?_
  have hv9 := w2.2
  refine lv_istore_n (lv' := [(3, .int r1), (0, .ref m0), (1, .int 0), (2, .int 15)]) hx hb dX11_readNumber_6 rfl hl (Nat.le_of_ble_eq_true rfl) rfl (fun ls hl => ?_)
  refine lv_aload_n hx hb dX11_readNumber_7 rfl (lv_at hl 1 rfl) ?_
  refine va_get (D := (dC, dI)) (ci := 11) (v := .int (y3 8)) (C := RX11) (T := TX11) (N := 61) hx hb hts hin11 hown hK hP 1 rfl rfl 22 (Nat.le_of_ble_eq_true rfl) hw_0 (fun _ h9 => h9) rfl dX11_readNumber_8 ?_
  refine lv_if_ne (tgt := 18) hx hb dX11_readNumber_11 rfl (fun c11 => ?_) (fun c11 => ?_)
  · have b12 : iv 1 5 (y3 8) := iv_neLo c11 (hq4 8 : iv 0 5 (y3 8)) ivk_0 (by decide) (by decide)
    refine lv_iload_n hx hb dX11_readNumber_18 rfl (lv_at hl 0 rfl) ?_
    have hPD9 := cl_s (wc := [(m0, .inr (11, oX11 ra y3)), (ra 13, .inl (kI, 700, .inl q_tape))]) hP hD [1, 0] rfl (by decide +kernel)
    have hP9 := hPD9.1
    have hD9 := hPD9.2
    exact W.iret (v := r1) hx hb hr (fun t ht hW => ⟨⟨r1, (), rfl, ⟨w2.1, hv9⟩, y3, hq4, (show (x0 2).toInt ≤ (y3 2).toInt from by omega), (show y3 3 = x0 3 from hq6), (show RRd tT nN y3 (nextT tT nN (numT tT 0 15 sS)) from rr_stepN hq7 c11), (show y3 1 = x0 1 from hq8), (show y3 10 = x0 10 from hq9), (show y3 23 = x0 23 from hq10), by rw [ht]; exact hP9, hD9⟩, hS.F ht⟩) hS.2.2 dX11_readNumber_19
  · have b13 : iv 0 0 (y3 8) := iv_eqL c11 ivk_0
    refine lv_aload_n hx hb dX11_readNumber_14 rfl (lv_at hl 1 rfl) ?_
    obtain ⟨hPc, hDc, hFc, hJn⟩ := cl_a (wc := [(m0, .inr (11, oX11 ra y3)), (ra 13, .inl (kI, 700, .inl q_tape))]) (wr := []) hP hD hS hA [1, 0] [] rfl rfl (by decide +kernel)
    refine va_callv (va_runV (As := []) (rest := []) ⟨hx, hb, hml, hown, hts⟩ (s11_stepOn l dC dI kB kI kJ kZ kC kS H.size m0 ra y3 q_tape tT nN (nextT tT nN (numT tT 0 15 sS)) (hq4) (hq_tape) (hq7.2) (stp_of hq7) (hTQ)) (cwV 0 hts gX11_readNumber_X11_stepOn rfl rfl rfl (by decide +kernel) ⟨Nat.le_of_ble_eq_true rfl, Nat.le_of_ble_eq_true rfl⟩) ⟨fun a U g mk q => by obtain ⟨q0, q1, qP, qE, qD⟩ := q; exact ⟨q0, q1, qP, kE_call qE, qD⟩, va_recv hK hP (ci := 11) (q0 := 1) rfl rfl, fun U hU hW => ⟨rfl, by rw [hU], by rw [hU]; exact hPc, kE_warm hW hE, hDc.weaken (fun _ _ _ _ => trivial)⟩⟩ rfl rfl hl.1 rfl (lv_room (Nat.le_of_ble_eq_true rfl)) dX11_readNumber_15 ⟨Nat.le_of_ble_eq_true rfl, Nat.le_of_ble_eq_true rfl⟩) hS (fun q _ h => hFc q h) hFc (fun u t H locs ht hvm w15 hB hz1 hk1 hS => ?_)
    obtain ⟨y16, hq17, hq18, hq19, hq20, hq21, hq22, hq23, hq24, hP1, hD1⟩ := hB
    try dsimp only at w15
    obtain ⟨hPa, hDa⟩ := hJn (w1 := [(m0, .inr (11, oX11 ra y16)), (ra 13, .inl (kI, 700, .inl q_tape))]) hk1 ht hP1 hD1
    clear hP hD hPc hDc hFc hJn hP1 hD1 hk1
    have hP : va_P (dC, dI) vwCl [(m0, .inr (11, oX11 ra y16)), (ra 13, .inl (kI, 700, .inl q_tape))] H := hPa
    have hD : va_D A [(m0, .inr (11, oX11 ra y16)), (ra 13, .inl (kI, 700, .inl q_tape))] := hDa
    clear hPa hDa
    refine W.widen (k := 0) (n := 0) (Nat.le_of_ble_eq_true rfl) (Nat.le_of_ble_eq_true rfl) ?_
    refine lv_iload_n hx hb dX11_readNumber_18 rfl (lv_at hl 0 rfl) ?_
    have hP9 := hP
    have hD9 := hD
    exact W.iret (v := r1) hx hb hr (fun t ht hW => ⟨⟨r1, (), rfl, ⟨w2.1, hv9⟩, y16, hq17, (show (x0 2).toInt ≤ (y16 2).toInt from by omega), (show y16 3 = x0 3 from hq19.trans (hq6)), (show RRd tT nN y16 (nextT tT nN (numT tT 0 15 sS)) from hq21), (show y16 1 = x0 1 from hq22.trans (hq8)), (show y16 10 = x0 10 from hq23.trans (hq9)), (show y16 23 = x0 23 from hq24.trans (hq10)), by rw [ht]; exact hP9, hD9⟩, hS.F ht⟩) hS.2.2 dX11_readNumber_19
def rm_s11_readNumber_1_60 : Room := { frames := 2, cells := 0, slots := 0, locals := 43 }
set_option maxHeartbeats 4000000 in
set_option maxRecDepth 100000 in
theorem s11_readNumber_1_60 (l : Launch) (dC : Nat → ClassId) (dI : Nat → Nat → Nat) (kB kI kJ kZ kC kS : ClassId) (sz : Nat) (m0 : Nat) (ra : Nat → Nat) (x0 : Nat → Int32) (q_tape : Nat → Int32) (tT : Nat → Int32) (nN : Int32) (sS : StT) (hX : fI lX11 hX11 x0) (hq_tape : fI (fun _ => 0) (fun _ => 255) q_tape) (hRr : RRd tT nN x0 sS) (hTQ : tT = q_tape) : Met l yX11_readNumber wsX11_readNumber rm_s11_readNumber_1_60 (va_Pc [.ref m0, .int 1, .int 60] (fun U => U.heap.size = sz ∧ va_P (dC, dI) vwCl [(m0, .inr (11, oX11 ra x0)), (ra 13, .inl (kI, 700, .inl q_tape))] U.heap ∧ kE dC dI kB kI kJ kZ kC kS U ∧ va_D (fun _ => True) [(m0, .inr (11, oX11 ra x0)), (ra 13, .inl (kI, 700, .inl q_tape))])) (va_Qi (fun (r : Int32) (_ : Unit) => iv 1 60 r ∧ (okT (numT tT 1 60 sS) → r = valS tT sS)) (fun _ t => ∃ (x0' : Nat → Int32), fI lX11 hX11 x0' ∧ ((x0 2).toInt ≤ (x0' 2).toInt) ∧ (x0' 3 = x0 3) ∧ (RRd tT nN x0' (nextT tT nN (numT tT 1 60 sS))) ∧ (x0' 1 = x0 1) ∧ (x0' 10 = x0 10) ∧ (x0' 23 = x0 23) ∧ va_P (dC, dI) vwCl [(m0, .inr (11, oX11 ra x0')), (ra 13, .inl (kI, 700, .inl q_tape))] t.heap ∧ va_D (va_A [(m0, .inr (11, oX11 ra x0)), (ra 13, .inl (kI, 700, .inl q_tape))] sz) [(m0, .inr (11, oX11 ra x0')), (ra 13, .inl (kI, 700, .inl q_tape))]) (va_A [(m0, .inr (11, oX11 ra x0)), (ra 13, .inl (kI, 700, .inl q_tape))] sz)) 0 0 (va_A [(m0, .inr (11, oX11 ra x0)), (ra 13, .inl (kI, 700, .inl q_tape))] sz) := by
  refine Met.ofW (cc := cX11_readNumber) (maxL := 4) (ret := (some .int)) (by decide) rfl ?_
  intro p e s m args0 below meth c s₁ B hml hv
  obtain ⟨hargs, hsz, hP, hE, hD0⟩ := hv
  have hx := B.exec
  have hb := B.bytes
  have hr := B.returns
  have hts := atoms_spec (ws := wsX11_readNumber) B.pre
  have hown : s.vm.findClass RX11 = some m.cls := findClass_of_methodNamed B.named
  have hlocks := B.notSynchronized
  have hK := hE.1
  have hin11 : ∀ w ∈ wsX110, w ∈ wsX11_readNumber := fun _ h9 => List.mem_cons_of_mem _ (List.mem_append_right _ h9)
  have hw_0 := hts (.fieldLink RX11 184 "PathProberModel" "bad" "I") (List.mem_of_getElem? (i := 1) rfl)
  subst hsz
  have hD := hD0.self (sz := s.heap.size)
  generalize hAe : va_A [(m0, .inr (11, oX11 ra x0)), (ra 13, .inl (kI, 700, .inl q_tape))] s.heap.size = A at hD ⊢
  have hA : ∀ q : Nat, s.heap.size ≤ q → A q := fun q h => by rw [← hAe]; exact Or.inr h
  have hS : va_S A s.heap s.heap [] := va_S.rf
  have hP : va_P (dC, dI) vwCl [(m0, .inr (11, oX11 ra x0)), (ra 13, .inl (kI, 700, .inl q_tape))] s.heap := hP
  have hl := lv_entry ([.ref m0, .int 1, .int 60]) (n := 4) (Nat.le_of_ble_eq_true rfl)
  have hla : entryFrame m args0 4 = entryFrame m ([.ref m0, .int 1, .int 60] : List Value).toArray 4 := by rw [hargs]
  rw [hla, lg_entry_eq]
  generalize (lg_sl ([.ref m0, .int 1, .int 60]) ++ List.replicate (4 - (lg_sl ([.ref m0, .int 1, .int 60])).length) Slot.unset).toArray = ls at hl ⊢
  have hl : lv_has ls 4 [(0, .ref m0), (1, .int 1), (2, .int 60)] := hl
  refine lv_aload_n hx hb dX11_readNumber_0 rfl (lv_at hl 0 rfl) ?_
  refine lv_iload_n hx hb dX11_readNumber_1 rfl (lv_at hl 1 rfl) ?_
  refine lv_iload_n hx hb dX11_readNumber_2 rfl (lv_at hl 2 rfl) ?_
  obtain ⟨hPc, hDc, hFc, hJn⟩ := cl_a (wc := [(m0, .inr (11, oX11 ra x0))]) (wr := [(ra 13, .inl (kI, 700, .inl q_tape))]) hP hD hS hA [0] [1] rfl rfl (by decide +kernel)
  refine va_calli (va_runV (As := [.int 1, .int 60]) (rest := []) ⟨hx, hb, hml, hown, hts⟩ (s11_numberNow_1_60 l dC dI kB kI kJ kZ kC kS s.heap.size m0 ra x0 tT nN sS (hX) (hRr)) (cwV 2 hts gX11_readNumber_X11_numberNow rfl rfl rfl (by decide +kernel) ⟨Nat.le_of_ble_eq_true rfl, Nat.le_of_ble_eq_true rfl⟩) ⟨fun a U g mk q => by obtain ⟨q0, q1, qP, qE, qD⟩ := q; exact ⟨q0, q1, qP, kE_call qE, qD⟩, va_recv hK hP (ci := 11) (q0 := 0) rfl rfl, fun U hU hW => ⟨rfl, by rw [hU], by rw [hU]; exact hPc, kE_warm hW hE, hDc.weaken (fun _ _ _ _ => trivial)⟩⟩ rfl rfl hl.1 rfl (lv_room (Nat.le_of_ble_eq_true rfl)) dX11_readNumber_3 ⟨Nat.le_of_ble_eq_true rfl, Nat.le_of_ble_eq_true rfl⟩) hS (fun q _ h => hFc q h) hFc (fun r1 u t H locs ht hvm w2 hB hz1 hk1 hS => ?_)
  obtain ⟨y3, hq4, hq5, hq6, hq7, hq8, hq9, hq10, hP1, hD1⟩ := hB
  try dsimp only at w2
  obtain ⟨hPa, hDa⟩ := hJn (w1 := [(m0, .inr (11, oX11 ra y3))]) hk1 ht hP1 hD1
  clear hP hD hPc hDc hFc hJn hP1 hD1 hk1
  have hP : va_P (dC, dI) vwCl [(ra 13, .inl (kI, 700, .inl q_tape)), (m0, .inr (11, oX11 ra y3))] H := hPa
  have hD : va_D A [(ra 13, .inl (kI, 700, .inl q_tape)), (m0, .inr (11, oX11 ra y3))] := hDa
  clear hPa hDa
  refine W.widen (k := 0) (n := 0) (Nat.le_of_ble_eq_true rfl) (Nat.le_of_ble_eq_true rfl) ?_
  have hv9 := w2.2
  refine lv_istore_n (lv' := [(3, .int r1), (0, .ref m0), (1, .int 1), (2, .int 60)]) hx hb dX11_readNumber_6 rfl hl (Nat.le_of_ble_eq_true rfl) rfl (fun ls hl => ?_)
  refine lv_aload_n hx hb dX11_readNumber_7 rfl (lv_at hl 1 rfl) ?_
  refine va_get (D := (dC, dI)) (ci := 11) (v := .int (y3 8)) (C := RX11) (T := TX11) (N := 61) hx hb hts hin11 hown hK hP 1 rfl rfl 22 (Nat.le_of_ble_eq_true rfl) hw_0 (fun _ h9 => h9) rfl dX11_readNumber_8 ?_
  refine lv_if_ne (tgt := 18) hx hb dX11_readNumber_11 rfl (fun c11 => ?_) (fun c11 => ?_)
  · have b12 : iv 1 5 (y3 8) := iv_neLo c11 (hq4 8 : iv 0 5 (y3 8)) ivk_0 (by decide) (by decide)
    refine lv_iload_n hx hb dX11_readNumber_18 rfl (lv_at hl 0 rfl) ?_
    have hPD9 := cl_s (wc := [(m0, .inr (11, oX11 ra y3)), (ra 13, .inl (kI, 700, .inl q_tape))]) hP hD [1, 0] rfl (by decide +kernel)
    have hP9 := hPD9.1
    have hD9 := hPD9.2
    exact W.iret (v := r1) hx hb hr (fun t ht hW => ⟨⟨r1, (), rfl, ⟨w2.1, hv9⟩, y3, hq4, (show (x0 2).toInt ≤ (y3 2).toInt from by omega), (show y3 3 = x0 3 from hq6), (show RRd tT nN y3 (nextT tT nN (numT tT 1 60 sS)) from rr_stepN hq7 c11), (show y3 1 = x0 1 from hq8), (show y3 10 = x0 10 from hq9), (show y3 23 = x0 23 from hq10), by rw [ht]; exact hP9, hD9⟩, hS.F ht⟩) hS.2.2 dX11_readNumber_19
  · have b13 : iv 0 0 (y3 8) := iv_eqL c11 ivk_0
    refine lv_aload_n hx hb dX11_readNumber_14 rfl (lv_at hl 1 rfl) ?_
    obtain ⟨hPc, hDc, hFc, hJn⟩ := cl_a (wc := [(m0, .inr (11, oX11 ra y3)), (ra 13, .inl (kI, 700, .inl q_tape))]) (wr := []) hP hD hS hA [1, 0] [] rfl rfl (by decide +kernel)
    refine va_callv (va_runV (As := []) (rest := []) ⟨hx, hb, hml, hown, hts⟩ (s11_stepOn l dC dI kB kI kJ kZ kC kS H.size m0 ra y3 q_tape tT nN (nextT tT nN (numT tT 1 60 sS)) (hq4) (hq_tape) (hq7.2) (stp_of hq7) (hTQ)) (cwV 0 hts gX11_readNumber_X11_stepOn rfl rfl rfl (by decide +kernel) ⟨Nat.le_of_ble_eq_true rfl, Nat.le_of_ble_eq_true rfl⟩) ⟨fun a U g mk q => by obtain ⟨q0, q1, qP, qE, qD⟩ := q; exact ⟨q0, q1, qP, kE_call qE, qD⟩, va_recv hK hP (ci := 11) (q0 := 1) rfl rfl, fun U hU hW => ⟨rfl, by rw [hU], by rw [hU]; exact hPc, kE_warm hW hE, hDc.weaken (fun _ _ _ _ => trivial)⟩⟩ rfl rfl hl.1 rfl (lv_room (Nat.le_of_ble_eq_true rfl)) dX11_readNumber_15 ⟨Nat.le_of_ble_eq_true rfl, Nat.le_of_ble_eq_true rfl⟩) hS (fun q _ h => hFc q h) hFc (fun u t H locs ht hvm w15 hB hz1 hk1 hS => ?_)
    obtain ⟨y16, hq17, hq18, hq19, hq20, hq21, hq22, hq23, hq24, hP1, hD1⟩ := hB
    try dsimp only at w15
    obtain ⟨hPa, hDa⟩ := hJn (w1 := [(m0, .inr (11, oX11 ra y16)), (ra 13, .inl (kI, 700, .inl q_tape))]) hk1 ht hP1 hD1
    clear hP hD hPc hDc hFc hJn hP1 hD1 hk1
    have hP : va_P (dC, dI) vwCl [(m0, .inr (11, oX11 ra y16)), (ra 13, .inl (kI, 700, .inl q_tape))] H := hPa
    have hD : va_D A [(m0, .inr (11, oX11 ra y16)), (ra 13, .inl (kI, 700, .inl q_tape))] := hDa
    clear hPa hDa
    refine W.widen (k := 0) (n := 0) (Nat.le_of_ble_eq_true rfl) (Nat.le_of_ble_eq_true rfl) ?_
    refine lv_iload_n hx hb dX11_readNumber_18 rfl (lv_at hl 0 rfl) ?_
    have hP9 := hP
    have hD9 := hD
    exact W.iret (v := r1) hx hb hr (fun t ht hW => ⟨⟨r1, (), rfl, ⟨w2.1, hv9⟩, y16, hq17, (show (x0 2).toInt ≤ (y16 2).toInt from by omega), (show y16 3 = x0 3 from hq19.trans (hq6)), (show RRd tT nN y16 (nextT tT nN (numT tT 1 60 sS)) from hq21), (show y16 1 = x0 1 from hq22.trans (hq8)), (show y16 10 = x0 10 from hq23.trans (hq9)), (show y16 23 = x0 23 from hq24.trans (hq10)), by rw [ht]; exact hP9, hD9⟩, hS.F ht⟩) hS.2.2 dX11_readNumber_19
def rm_s11_readNumber_1_50 : Room := { frames := 2, cells := 0, slots := 0, locals := 43 }
set_option maxHeartbeats 4000000 in
set_option maxRecDepth 100000 in
theorem s11_readNumber_1_50 (l : Launch) (dC : Nat → ClassId) (dI : Nat → Nat → Nat) (kB kI kJ kZ kC kS : ClassId) (sz : Nat) (m0 : Nat) (ra : Nat → Nat) (x0 : Nat → Int32) (q_tape : Nat → Int32) (tT : Nat → Int32) (nN : Int32) (sS : StT) (hX : fI lX11 hX11 x0) (hq_tape : fI (fun _ => 0) (fun _ => 255) q_tape) (hRr : RRd tT nN x0 sS) (hTQ : tT = q_tape) : Met l yX11_readNumber wsX11_readNumber rm_s11_readNumber_1_50 (va_Pc [.ref m0, .int 1, .int 50] (fun U => U.heap.size = sz ∧ va_P (dC, dI) vwCl [(m0, .inr (11, oX11 ra x0)), (ra 13, .inl (kI, 700, .inl q_tape))] U.heap ∧ kE dC dI kB kI kJ kZ kC kS U ∧ va_D (fun _ => True) [(m0, .inr (11, oX11 ra x0)), (ra 13, .inl (kI, 700, .inl q_tape))])) (va_Qi (fun (r : Int32) (_ : Unit) => iv 1 50 r ∧ (okT (numT tT 1 50 sS) → r = valS tT sS)) (fun _ t => ∃ (x0' : Nat → Int32), fI lX11 hX11 x0' ∧ ((x0 2).toInt ≤ (x0' 2).toInt) ∧ (x0' 3 = x0 3) ∧ (RRd tT nN x0' (nextT tT nN (numT tT 1 50 sS))) ∧ (x0' 1 = x0 1) ∧ (x0' 10 = x0 10) ∧ (x0' 23 = x0 23) ∧ va_P (dC, dI) vwCl [(m0, .inr (11, oX11 ra x0')), (ra 13, .inl (kI, 700, .inl q_tape))] t.heap ∧ va_D (va_A [(m0, .inr (11, oX11 ra x0)), (ra 13, .inl (kI, 700, .inl q_tape))] sz) [(m0, .inr (11, oX11 ra x0')), (ra 13, .inl (kI, 700, .inl q_tape))]) (va_A [(m0, .inr (11, oX11 ra x0)), (ra 13, .inl (kI, 700, .inl q_tape))] sz)) 0 0 (va_A [(m0, .inr (11, oX11 ra x0)), (ra 13, .inl (kI, 700, .inl q_tape))] sz) := by
  refine Met.ofW (cc := cX11_readNumber) (maxL := 4) (ret := (some .int)) (by decide) rfl ?_
  intro p e s m args0 below meth c s₁ B hml hv
  obtain ⟨hargs, hsz, hP, hE, hD0⟩ := hv
  have hx := B.exec
  have hb := B.bytes
  have hr := B.returns
  have hts := atoms_spec (ws := wsX11_readNumber) B.pre
  have hown : s.vm.findClass RX11 = some m.cls := findClass_of_methodNamed B.named
  have hlocks := B.notSynchronized
  have hK := hE.1
  have hin11 : ∀ w ∈ wsX110, w ∈ wsX11_readNumber := fun _ h9 => List.mem_cons_of_mem _ (List.mem_append_right _ h9)
  have hw_0 := hts (.fieldLink RX11 184 "PathProberModel" "bad" "I") (List.mem_of_getElem? (i := 1) rfl)
  subst hsz
  have hD := hD0.self (sz := s.heap.size)
  generalize hAe : va_A [(m0, .inr (11, oX11 ra x0)), (ra 13, .inl (kI, 700, .inl q_tape))] s.heap.size = A at hD ⊢
  have hA : ∀ q : Nat, s.heap.size ≤ q → A q := fun q h => by rw [← hAe]; exact Or.inr h
  have hS : va_S A s.heap s.heap [] := va_S.rf
  have hP : va_P (dC, dI) vwCl [(m0, .inr (11, oX11 ra x0)), (ra 13, .inl (kI, 700, .inl q_tape))] s.heap := hP
  have hl := lv_entry ([.ref m0, .int 1, .int 50]) (n := 4) (Nat.le_of_ble_eq_true rfl)
  have hla : entryFrame m args0 4 = entryFrame m ([.ref m0, .int 1, .int 50] : List Value).toArray 4 := by rw [hargs]
  rw [hla, lg_entry_eq]
  generalize (lg_sl ([.ref m0, .int 1, .int 50]) ++ List.replicate (4 - (lg_sl ([.ref m0, .int 1, .int 50])).length) Slot.unset).toArray = ls at hl ⊢
  have hl : lv_has ls 4 [(0, .ref m0), (1, .int 1), (2, .int 50)] := hl
  refine lv_aload_n hx hb dX11_readNumber_0 rfl (lv_at hl 0 rfl) ?_
  refine lv_iload_n hx hb dX11_readNumber_1 rfl (lv_at hl 1 rfl) ?_
  refine lv_iload_n hx hb dX11_readNumber_2 rfl (lv_at hl 2 rfl) ?_
  obtain ⟨hPc, hDc, hFc, hJn⟩ := cl_a (wc := [(m0, .inr (11, oX11 ra x0))]) (wr := [(ra 13, .inl (kI, 700, .inl q_tape))]) hP hD hS hA [0] [1] rfl rfl (by decide +kernel)
  refine va_calli (va_runV (As := [.int 1, .int 50]) (rest := []) ⟨hx, hb, hml, hown, hts⟩ (s11_numberNow_1_50 l dC dI kB kI kJ kZ kC kS s.heap.size m0 ra x0 tT nN sS (hX) (hRr)) (cwV 2 hts gX11_readNumber_X11_numberNow rfl rfl rfl (by decide +kernel) ⟨Nat.le_of_ble_eq_true rfl, Nat.le_of_ble_eq_true rfl⟩) ⟨fun a U g mk q => by obtain ⟨q0, q1, qP, qE, qD⟩ := q; exact ⟨q0, q1, qP, kE_call qE, qD⟩, va_recv hK hP (ci := 11) (q0 := 0) rfl rfl, fun U hU hW => ⟨rfl, by rw [hU], by rw [hU]; exact hPc, kE_warm hW hE, hDc.weaken (fun _ _ _ _ => trivial)⟩⟩ rfl rfl hl.1 rfl (lv_room (Nat.le_of_ble_eq_true rfl)) dX11_readNumber_3 ⟨Nat.le_of_ble_eq_true rfl, Nat.le_of_ble_eq_true rfl⟩) hS (fun q _ h => hFc q h) hFc (fun r1 u t H locs ht hvm w2 hB hz1 hk1 hS => ?_)
  obtain ⟨y3, hq4, hq5, hq6, hq7, hq8, hq9, hq10, hP1, hD1⟩ := hB
  try dsimp only at w2
  obtain ⟨hPa, hDa⟩ := hJn (w1 := [(m0, .inr (11, oX11 ra y3))]) hk1 ht hP1 hD1
  clear hP hD hPc hDc hFc hJn hP1 hD1 hk1
  have hP : va_P (dC, dI) vwCl [(ra 13, .inl (kI, 700, .inl q_tape)), (m0, .inr (11, oX11 ra y3))] H := hPa
  have hD : va_D A [(ra 13, .inl (kI, 700, .inl q_tape)), (m0, .inr (11, oX11 ra y3))] := hDa
  clear hPa hDa
  refine W.widen (k := 0) (n := 0) (Nat.le_of_ble_eq_true rfl) (Nat.le_of_ble_eq_true rfl) ?_
  have hv9 := w2.2
  refine lv_istore_n (lv' := [(3, .int r1), (0, .ref m0), (1, .int 1), (2, .int 50)]) hx hb dX11_readNumber_6 rfl hl (Nat.le_of_ble_eq_true rfl) rfl (fun ls hl => ?_)
  refine lv_aload_n hx hb dX11_readNumber_7 rfl (lv_at hl 1 rfl) ?_
  refine va_get (D := (dC, dI)) (ci := 11) (v := .int (y3 8)) (C := RX11) (T := TX11) (N := 61) hx hb hts hin11 hown hK hP 1 rfl rfl 22 (Nat.le_of_ble_eq_true rfl) hw_0 (fun _ h9 => h9) rfl dX11_readNumber_8 ?_
  refine lv_if_ne (tgt := 18) hx hb dX11_readNumber_11 rfl (fun c11 => ?_) (fun c11 => ?_)
  · have b12 : iv 1 5 (y3 8) := iv_neLo c11 (hq4 8 : iv 0 5 (y3 8)) ivk_0 (by decide) (by decide)
    refine lv_iload_n hx hb dX11_readNumber_18 rfl (lv_at hl 0 rfl) ?_
    have hPD9 := cl_s (wc := [(m0, .inr (11, oX11 ra y3)), (ra 13, .inl (kI, 700, .inl q_tape))]) hP hD [1, 0] rfl (by decide +kernel)
    have hP9 := hPD9.1
    have hD9 := hPD9.2
    exact W.iret (v := r1) hx hb hr (fun t ht hW => ⟨⟨r1, (), rfl, ⟨w2.1, hv9⟩, y3, hq4, (show (x0 2).toInt ≤ (y3 2).toInt from by omega), (show y3 3 = x0 3 from hq6), (show RRd tT nN y3 (nextT tT nN (numT tT 1 50 sS)) from rr_stepN hq7 c11), (show y3 1 = x0 1 from hq8), (show y3 10 = x0 10 from hq9), (show y3 23 = x0 23 from hq10), by rw [ht]; exact hP9, hD9⟩, hS.F ht⟩) hS.2.2 dX11_readNumber_19
  · have b13 : iv 0 0 (y3 8) := iv_eqL c11 ivk_0
    refine lv_aload_n hx hb dX11_readNumber_14 rfl (lv_at hl 1 rfl) ?_
    obtain ⟨hPc, hDc, hFc, hJn⟩ := cl_a (wc := [(m0, .inr (11, oX11 ra y3)), (ra 13, .inl (kI, 700, .inl q_tape))]) (wr := []) hP hD hS hA [1, 0] [] rfl rfl (by decide +kernel)
    refine va_callv (va_runV (As := []) (rest := []) ⟨hx, hb, hml, hown, hts⟩ (s11_stepOn l dC dI kB kI kJ kZ kC kS H.size m0 ra y3 q_tape tT nN (nextT tT nN (numT tT 1 50 sS)) (hq4) (hq_tape) (hq7.2) (stp_of hq7) (hTQ)) (cwV 0 hts gX11_readNumber_X11_stepOn rfl rfl rfl (by decide +kernel) ⟨Nat.le_of_ble_eq_true rfl, Nat.le_of_ble_eq_true rfl⟩) ⟨fun a U g mk q => by obtain ⟨q0, q1, qP, qE, qD⟩ := q; exact ⟨q0, q1, qP, kE_call qE, qD⟩, va_recv hK hP (ci := 11) (q0 := 1) rfl rfl, fun U hU hW => ⟨rfl, by rw [hU], by rw [hU]; exact hPc, kE_warm hW hE, hDc.weaken (fun _ _ _ _ => trivial)⟩⟩ rfl rfl hl.1 rfl (lv_room (Nat.le_of_ble_eq_true rfl)) dX11_readNumber_15 ⟨Nat.le_of_ble_eq_true rfl, Nat.le_of_ble_eq_true rfl⟩) hS (fun q _ h => hFc q h) hFc (fun u t H locs ht hvm w15 hB hz1 hk1 hS => ?_)
    obtain ⟨y16, hq17, hq18, hq19, hq20, hq21, hq22, hq23, hq24, hP1, hD1⟩ := hB
    try dsimp only at w15
    obtain ⟨hPa, hDa⟩ := hJn (w1 := [(m0, .inr (11, oX11 ra y16)), (ra 13, .inl (kI, 700, .inl q_tape))]) hk1 ht hP1 hD1
    clear hP hD hPc hDc hFc hJn hP1 hD1 hk1
    have hP : va_P (dC, dI) vwCl [(m0, .inr (11, oX11 ra y16)), (ra 13, .inl (kI, 700, .inl q_tape))] H := hPa
    have hD : va_D A [(m0, .inr (11, oX11 ra y16)), (ra 13, .inl (kI, 700, .inl q_tape))] := hDa
    clear hPa hDa
    refine W.widen (k := 0) (n := 0) (Nat.le_of_ble_eq_true rfl) (Nat.le_of_ble_eq_true rfl) ?_
    refine lv_iload_n hx hb dX11_readNumber_18 rfl (lv_at hl 0 rfl) ?_
    have hP9 := hP
    have hD9 := hD
    exact W.iret (v := r1) hx hb hr (fun t ht hW => ⟨⟨r1, (), rfl, ⟨w2.1, hv9⟩, y16, hq17, (show (x0 2).toInt ≤ (y16 2).toInt from by omega), (show y16 3 = x0 3 from hq19.trans (hq6)), (show RRd tT nN y16 (nextT tT nN (numT tT 1 50 sS)) from hq21), (show y16 1 = x0 1 from hq22.trans (hq8)), (show y16 10 = x0 10 from hq23.trans (hq9)), (show y16 23 = x0 23 from hq24.trans (hq10)), by rw [ht]; exact hP9, hD9⟩, hS.F ht⟩) hS.2.2 dX11_readNumber_19
def rm_s11_routerNow : Room := { frames := 2, cells := 0, slots := 0, locals := 43 }
set_option maxHeartbeats 4000000 in
set_option maxRecDepth 100000 in
theorem s11_routerNow (l : Launch) (dC : Nat → ClassId) (dI : Nat → Nat → Nat) (kB kI kJ kZ kC kS : ClassId) (sz : Nat) (m0 : Nat) (ra : Nat → Nat) (x0 : Nat → Int32) (q_told : Nat → Int32) (tT : Nat → Int32) (nN : Int32) (sS : StT) (hX : fI lX11 hX11 x0) (hq_told : fI lTold hTold q_told) (hRr : RRd tT nN x0 sS) : Met l yX11_routerNow wsX11_routerNow rm_s11_routerNow (va_Pc [.ref m0] (fun U => U.heap.size = sz ∧ va_P (dC, dI) vwCl [(m0, .inr (11, oX11 ra x0)), (ra 2, .inl (kI, 8, .inl q_told))] U.heap ∧ kE dC dI kB kI kJ kZ kC kS U ∧ va_D (fun _ => True) [(m0, .inr (11, oX11 ra x0)), (ra 2, .inl (kI, 8, .inl q_told))])) (va_Qi (fun (r : Int32) (_ : Unit) => iv 0 11 r ∧ (okT (rouT tT (q_told 4) sS) → r = valS tT sS)) (fun _ t => ∃ (x0' : Nat → Int32), fI lX11 hX11 x0' ∧ ((x0' 2).toInt = (x0 2).toInt) ∧ (x0' 3 = x0 3) ∧ (RRd tT nN x0' (rouT tT (q_told 4) sS)) ∧ (x0' 1 = x0 1) ∧ (x0' 10 = x0 10) ∧ (x0' 23 = x0 23) ∧ va_P (dC, dI) vwCl [(m0, .inr (11, oX11 ra x0')), (ra 2, .inl (kI, 8, .inl q_told))] t.heap ∧ va_D (va_A [(m0, .inr (11, oX11 ra x0)), (ra 2, .inl (kI, 8, .inl q_told))] sz) [(m0, .inr (11, oX11 ra x0')), (ra 2, .inl (kI, 8, .inl q_told))]) (va_A [(m0, .inr (11, oX11 ra x0)), (ra 2, .inl (kI, 8, .inl q_told))] sz)) 0 0 (va_A [(m0, .inr (11, oX11 ra x0)), (ra 2, .inl (kI, 8, .inl q_told))] sz) := by
  refine Met.ofW (cc := cX11_routerNow) (maxL := 2) (ret := (some .int)) (by decide) rfl ?_
  intro p e s m args0 below meth c s₁ B hml hv
  obtain ⟨hargs, hsz, hP, hE, hD0⟩ := hv
  have hx := B.exec
  have hb := B.bytes
  have hr := B.returns
  have hts := atoms_spec (ws := wsX11_routerNow) B.pre
  have hown : s.vm.findClass RX11 = some m.cls := findClass_of_methodNamed B.named
  have hlocks := B.notSynchronized
  have hK := hE.1
  have hin11 : ∀ w ∈ wsX110, w ∈ wsX11_routerNow := fun _ h9 => List.mem_cons_of_mem _ (List.mem_append_right _ h9)
  have hw_0 := hts (.fieldLink RX11 184 "PathProberModel" "bad" "I") (List.mem_of_getElem? (i := 1) rfl)
  have hw_1 := hts (.fieldLink RX11 34 "PathProberModel" "told" "[I") (List.mem_of_getElem? (i := 2) rfl)
  subst hsz
  have hD := hD0.self (sz := s.heap.size)
  generalize hAe : va_A [(m0, .inr (11, oX11 ra x0)), (ra 2, .inl (kI, 8, .inl q_told))] s.heap.size = A at hD ⊢
  have hA : ∀ q : Nat, s.heap.size ≤ q → A q := fun q h => by rw [← hAe]; exact Or.inr h
  have hS : va_S A s.heap s.heap [] := va_S.rf
  have hP : va_P (dC, dI) vwCl [(m0, .inr (11, oX11 ra x0)), (ra 2, .inl (kI, 8, .inl q_told))] s.heap := hP
  have hl := lv_entry ([.ref m0]) (n := 2) (Nat.le_of_ble_eq_true rfl)
  have hla : entryFrame m args0 2 = entryFrame m ([.ref m0] : List Value).toArray 2 := by rw [hargs]
  rw [hla, lg_entry_eq]
  generalize (lg_sl ([.ref m0]) ++ List.replicate (2 - (lg_sl ([.ref m0])).length) Slot.unset).toArray = ls at hl ⊢
  have hl : lv_has ls 2 [(0, .ref m0)] := hl
  refine lv_aload_n hx hb dX11_routerNow_0 rfl (lv_at hl 0 rfl) ?_
  refine lv_iconst (v := 0) hx hb dX11_routerNow_1 ic_0 ?_
  refine lv_bipush (v := 11) hx hb dX11_routerNow_2 bp_11 ?_
  obtain ⟨hPc, hDc, hFc, hJn⟩ := cl_a (wc := [(m0, .inr (11, oX11 ra x0))]) (wr := [(ra 2, .inl (kI, 8, .inl q_told))]) hP hD hS hA [0] [1] rfl rfl (by decide +kernel)
  refine va_calli (va_runV (As := [.int 0, .int 11]) (rest := []) ⟨hx, hb, hml, hown, hts⟩ (s11_numberNow_0_11 l dC dI kB kI kJ kZ kC kS s.heap.size m0 ra x0 tT nN sS (hX) (hRr)) (cwV 2 hts gX11_routerNow_X11_numberNow rfl rfl rfl (by decide +kernel) ⟨Nat.le_of_ble_eq_true rfl, Nat.le_of_ble_eq_true rfl⟩) ⟨fun a U g mk q => by obtain ⟨q0, q1, qP, qE, qD⟩ := q; exact ⟨q0, q1, qP, kE_call qE, qD⟩, va_recv hK hP (ci := 11) (q0 := 0) rfl rfl, fun U hU hW => ⟨rfl, by rw [hU], by rw [hU]; exact hPc, kE_warm hW hE, hDc.weaken (fun _ _ _ _ => trivial)⟩⟩ rfl rfl hl.1 rfl (lv_room (Nat.le_of_ble_eq_true rfl)) dX11_routerNow_4 ⟨Nat.le_of_ble_eq_true rfl, Nat.le_of_ble_eq_true rfl⟩) hS (fun q _ h => hFc q h) hFc (fun r1 u t H locs ht hvm w2 hB hz1 hk1 hS => ?_)
  obtain ⟨y3, hq4, hq5, hq6, hq7, hq8, hq9, hq10, hP1, hD1⟩ := hB
  try dsimp only at w2
  obtain ⟨hPa, hDa⟩ := hJn (w1 := [(m0, .inr (11, oX11 ra y3))]) hk1 ht hP1 hD1
  clear hP hD hPc hDc hFc hJn hP1 hD1 hk1
  have hP : va_P (dC, dI) vwCl [(ra 2, .inl (kI, 8, .inl q_told)), (m0, .inr (11, oX11 ra y3))] H := hPa
  have hD : va_D A [(ra 2, .inl (kI, 8, .inl q_told)), (m0, .inr (11, oX11 ra y3))] := hDa
  clear hPa hDa
  refine W.widen (k := 0) (n := 0) (Nat.le_of_ble_eq_true rfl) (Nat.le_of_ble_eq_true rfl) ?_
  have hv9 := w2.2
  refine lv_istore_n (lv' := [(1, .int r1), (0, .ref m0)]) hx hb dX11_routerNow_7 rfl hl (Nat.le_of_ble_eq_true rfl) rfl (fun ls hl => ?_)
  refine lv_aload_n hx hb dX11_routerNow_8 rfl (lv_at hl 1 rfl) ?_
  refine va_get (D := (dC, dI)) (ci := 11) (v := .int (y3 8)) (C := RX11) (T := TX11) (N := 61) hx hb hts hin11 hown hK hP 1 rfl rfl 22 (Nat.le_of_ble_eq_true rfl) hw_0 (fun _ h9 => h9) rfl dX11_routerNow_9 ?_
  refine lv_if_ne (tgt := 30) hx hb dX11_routerNow_12 rfl (fun c11 => ?_) (fun c11 => ?_)
  · have b12 : iv 1 5 (y3 8) := iv_neLo c11 (hq4 8 : iv 0 5 (y3 8)) ivk_0 (by decide) (by decide)
    refine lv_iload_n hx hb dX11_routerNow_30 rfl (lv_at hl 0 rfl) ?_
    have hPD9 := cl_s (wc := [(m0, .inr (11, oX11 ra y3)), (ra 2, .inl (kI, 8, .inl q_told))]) hP hD [1, 0] rfl (by decide +kernel)
    have hP9 := hPD9.1
    have hD9 := hPD9.2
    exact W.iret (v := r1) hx hb hr (fun t ht hW => ⟨⟨r1, (), rfl, ⟨w2.1, fun hk => hv9 (ok_rou hk)⟩, y3, hq4, (show (y3 2).toInt = (x0 2).toInt from by omega), (show y3 3 = x0 3 from hq6), (show RRd tT nN y3 (rouT tT (q_told 4) sS) from (rq_n hq7 hv9 (Or.inl c11)) ▸ hq7), (show y3 1 = x0 1 from hq8), (show y3 10 = x0 10 from hq9), (show y3 23 = x0 23 from hq10), by rw [ht]; exact hP9, hD9⟩, hS.F ht⟩) hS.2.2 dX11_routerNow_31
  · have b13 : iv 0 0 (y3 8) := iv_eqL c11 ivk_0
    refine lv_iload_n hx hb dX11_routerNow_15 rfl (lv_at hl 0 rfl) ?_
    refine lv_aload_n hx hb dX11_routerNow_16 rfl (lv_at hl 1 rfl) ?_
    refine va_get (D := (dC, dI)) (ci := 11) (v := .ref (ra 2)) (C := RX11) (T := TX11) (N := 61) hx hb hts hin11 hown hK hP 1 rfl rfl 3 (Nat.le_of_ble_eq_true rfl) hw_1 (fun _ h9 => h9) rfl dX11_routerNow_17 ?_
    refine lv_iconst (v := 4) hx hb dX11_routerNow_20 ic_4 ?_
    refine va_iald hx hb hK hP 0 1 rfl rfl (vp_in_nI (n := 4) (by decide) (by decide)) dX11_routerNow_21 ?_
    refine W.eq (g2 := F0 m 22 ls [.int (q_told 4), .int r1]) rfl ?_
    refine lv_icmp_lt (tgt := 30) hx hb dX11_routerNow_22 rfl (fun c14 => ?_) (fun c14 => ?_)
    · have b15 : iv 1 12 (q_told 4) := iv_ltR c14 w2.1 (hq_told 4 : iv 0 12 (q_told 4)) (by decide) (by decide)
      refine lv_iload_n hx hb dX11_routerNow_30 rfl (lv_at hl 0 rfl) ?_
      have hPD9 := cl_s (wc := [(m0, .inr (11, oX11 ra y3)), (ra 2, .inl (kI, 8, .inl q_told))]) hP hD [1, 0] rfl (by decide +kernel)
      have hP9 := hPD9.1
      have hD9 := hPD9.2
      exact W.iret (v := r1) hx hb hr (fun t ht hW => ⟨⟨r1, (), rfl, ⟨w2.1, fun hk => hv9 (ok_rou hk)⟩, y3, hq4, (show (y3 2).toInt = (x0 2).toInt from by omega), (show y3 3 = x0 3 from hq6), (show RRd tT nN y3 (rouT tT (q_told 4) sS) from (rq_n hq7 hv9 (Or.inr c14)) ▸ hq7), (show y3 1 = x0 1 from hq8), (show y3 10 = x0 10 from hq9), (show y3 23 = x0 23 from hq10), by rw [ht]; exact hP9, hD9⟩, hS.F ht⟩) hS.2.2 dX11_routerNow_31
    · have b16 : iv 0 11 (q_told 4) := iv_leL (Int32.not_lt.mp c14) (hq_told 4 : iv 0 12 (q_told 4)) w2.1 (by decide) (by decide)
      refine lv_aload_n hx hb dX11_routerNow_25 rfl (lv_at hl 1 rfl) ?_
      refine lv_iconst (v := 3) hx hb dX11_routerNow_26 ic_3 ?_
      obtain ⟨hPc, hDc, hFc, hJn⟩ := cl_a (wc := [(m0, .inr (11, oX11 ra y3))]) (wr := [(ra 2, .inl (kI, 8, .inl q_told))]) hP hD hS hA [1] [0] rfl rfl (by decide +kernel)
      refine va_callv (va_runV (As := [.int 3]) (rest := []) ⟨hx, hb, hml, hown, hts⟩ (s11_wrong l dC dI kB kI kJ kZ kC kS H.size m0 ra y3 3 tT nN (numT tT 0 11 sS) (hq4) ((iv_w ivk_3 (by decide) (by decide))) (hq7)) (cwV 1 hts gX11_routerNow_X11_wrong rfl rfl rfl (by decide +kernel) ⟨Nat.le_of_ble_eq_true rfl, Nat.le_of_ble_eq_true rfl⟩) ⟨fun a U g mk q => by obtain ⟨q0, q1, qP, qE, qD⟩ := q; exact ⟨q0, q1, qP, kE_call qE, qD⟩, va_recv hK hP (ci := 11) (q0 := 1) rfl rfl, fun U hU hW => ⟨rfl, by rw [hU], by rw [hU]; exact hPc, kE_warm hW hE, hDc.weaken (fun _ _ _ _ => trivial)⟩⟩ rfl rfl hl.1 rfl (lv_room (Nat.le_of_ble_eq_true rfl)) dX11_routerNow_27 ⟨Nat.le_of_ble_eq_true rfl, Nat.le_of_ble_eq_true rfl⟩) hS (fun q _ h => hFc q h) hFc (fun u t H locs ht hvm w18 hB hz1 hk1 hS => ?_)
      obtain ⟨y19, hq20, hq21, hq22, hq23, hq24, hq25, hq26, hq27, hP1, hD1⟩ := hB
      try dsimp only at w18
      obtain ⟨hPa, hDa⟩ := hJn (w1 := [(m0, .inr (11, oX11 ra y19))]) hk1 ht hP1 hD1
      clear hP hD hPc hDc hFc hJn hP1 hD1 hk1
      have hP : va_P (dC, dI) vwCl [(ra 2, .inl (kI, 8, .inl q_told)), (m0, .inr (11, oX11 ra y19))] H := hPa
      have hD : va_D A [(ra 2, .inl (kI, 8, .inl q_told)), (m0, .inr (11, oX11 ra y19))] := hDa
      clear hPa hDa
      refine W.widen (k := 0) (n := 0) (Nat.le_of_ble_eq_true rfl) (Nat.le_of_ble_eq_true rfl) ?_
      refine lv_iload_n hx hb dX11_routerNow_30 rfl (lv_at hl 0 rfl) ?_
      have hPD9 := cl_s (wc := [(m0, .inr (11, oX11 ra y19)), (ra 2, .inl (kI, 8, .inl q_told))]) hP hD [1, 0] rfl (by decide +kernel)
      have hP9 := hPD9.1
      have hD9 := hPD9.2
      exact W.iret (v := r1) hx hb hr (fun t ht hW => ⟨⟨r1, (), rfl, ⟨w2.1, fun hk => hv9 (ok_rou hk)⟩, y19, hq20, (show (y19 2).toInt = (x0 2).toInt from by omega), (show y19 3 = x0 3 from hq23.trans (hq6)), (show RRd tT nN y19 (rouT tT (q_told 4) sS) from (rq_f hq7 c11 hv9 (Int32.not_lt.mp c14)) ▸ hq24), (show y19 1 = x0 1 from hq25.trans (hq8)), (show y19 10 = x0 10 from hq26.trans (hq9)), (show y19 23 = x0 23 from hq27.trans (hq10)), by rw [ht]; exact hP9, hD9⟩, hS.F ht⟩) hS.2.2 dX11_routerNow_31
def rm_s11_readRouter : Room := { frames := 6, cells := 0, slots := 0, locals := 130 }
set_option maxHeartbeats 4000000 in
set_option maxRecDepth 100000 in
theorem s11_readRouter (l : Launch) (dC : Nat → ClassId) (dI : Nat → Nat → Nat) (kB kI kJ kZ kC kS : ClassId) (sz : Nat) (adK : Nat → Nat) (adV : Nat → Nat) (m0 : Nat) (ra : Nat → Nat) (x0 : Nat → Int32) (q_told : Nat → Int32) (q_kind : Nat → Int32) (q_salt : Nat → Int32) (q_pace : Nat → Int32) (q_mute : Nat → Int32) (q_late : Nat → Int32) (q_from : Nat → Int32) (q_to : Nat → Int32) (q_tape : Nat → Int32) (q_words : Nat → Option Nat) (q_kinds : Nat → Option Nat) (tT : Nat → Int32) (nN : Int32) (sS : StT) (hX : fI lX11 hX11 x0) (hq_told : fI lTold hTold q_told) (hq_salt : fI (fun _ => 0) (fun _ => 15) q_salt) (hq_tape : fI (fun _ => 0) (fun _ => 255) q_tape) (hLT : ∀ j : Nat, (j : Int) < (q_told 1).toInt → (q_from j).toInt < (q_to j).toInt) (hLD : ∀ j : Nat, (j : Int) < (q_told 5).toInt → (q_from (20 + j)).toInt < (q_to (20 + j)).toInt) (hwo : ∀ k, k < 4 → q_words k = some (adK (0 + k))) (hki : ∀ k, k < 4 → q_kinds k = some (adK (4 + k))) (hRr : RRd tT nN x0 sS) (hTQ : tT = q_tape) : Met l yX11_readRouter wsX11_readRouter rm_s11_readRouter (va_Pc [.ref m0] (fun U => U.heap.size = sz ∧ va_P (dC, dI) vwCl [(m0, .inr (11, oX11 ra x0)), (ra 2, .inl (kI, 8, .inl q_told)), (ra 3, .inl (kI, 24, .inl q_kind)), (ra 4, .inl (kI, 24, .inl q_salt)), (ra 5, .inl (kI, 24, .inl q_pace)), (ra 6, .inl (kI, 24, .inl q_mute)), (ra 7, .inl (kI, 24, .inl q_late)), (ra 13, .inl (kI, 700, .inl q_tape)), (ra 1, .inl (kS, 4, .inr (.inr (.inr (.inr q_kinds)))))] U.heap ∧ kE dC dI kB kI kJ kZ kC kS U ∧ va_D (fun _ => True) [(m0, .inr (11, oX11 ra x0)), (ra 2, .inl (kI, 8, .inl q_told)), (ra 3, .inl (kI, 24, .inl q_kind)), (ra 4, .inl (kI, 24, .inl q_salt)), (ra 5, .inl (kI, 24, .inl q_pace)), (ra 6, .inl (kI, 24, .inl q_mute)), (ra 7, .inl (kI, 24, .inl q_late)), (ra 13, .inl (kI, 700, .inl q_tape)), (ra 1, .inl (kS, 4, .inr (.inr (.inr (.inr q_kinds)))))] ∧ kL adK adV (va_A [(m0, .inr (11, oX11 ra x0)), (ra 2, .inl (kI, 8, .inl q_told)), (ra 3, .inl (kI, 24, .inl q_kind)), (ra 4, .inl (kI, 24, .inl q_salt)), (ra 5, .inl (kI, 24, .inl q_pace)), (ra 6, .inl (kI, 24, .inl q_mute)), (ra 7, .inl (kI, 24, .inl q_late)), (ra 13, .inl (kI, 700, .inl q_tape)), (ra 1, .inl (kS, 4, .inr (.inr (.inr (.inr q_kinds)))))] sz) U)) (va_Qv (fun (_ : Unit) => True) (fun _ t => ∃ (x0' : Nat → Int32) (q_told' : Nat → Int32) (q_kind' : Nat → Int32) (q_salt' : Nat → Int32) (q_pace' : Nat → Int32) (q_mute' : Nat → Int32) (q_late' : Nat → Int32), fI lX11 hX11 x0' ∧ fI lTold hTold q_told' ∧ fI (fun _ => 0) (fun _ => 15) q_salt' ∧ ((x0 2).toInt ≤ (x0' 2).toInt) ∧ (x0' 3 = x0 3) ∧ (∀ j : Nat, (j : Int) < (q_told' 1).toInt → (q_from j).toInt < (q_to j).toInt) ∧ (∀ j : Nat, (j : Int) < (q_told' 5).toInt → (q_from (20 + j)).toInt < (q_to (20 + j)).toInt) ∧ (RRd tT nN x0' (rtrS tT nN sS (q_told 4))) ∧ (x0' 8 = 0 → q_told' = upd q_told 4 (q_told 4 + 1) ∧ q_kind' = upd q_kind ((12 + (q_told 4)).toNatClampNeg) (kndS tT (rtr1 tT nN sS)) ∧ q_salt' = upd q_salt ((12 + (q_told 4)).toNatClampNeg) (valS tT (rtr2 tT nN sS)) ∧ q_pace' = upd q_pace ((12 + (q_told 4)).toNatClampNeg) (valS tT (rtr3 tT nN sS)) ∧ q_mute' = upd q_mute ((12 + (q_told 4)).toNatClampNeg) (wS tT 8 (rtr4 tT nN sS)) ∧ q_late' = upd q_late ((12 + (q_told 4)).toNatClampNeg) (wS tT 9 (rtr4 tT nN sS))) ∧ (x0' 1 = x0 1) ∧ (x0' 10 = x0 10) ∧ (x0' 23 = x0 23) ∧ va_P (dC, dI) vwCl [(m0, .inr (11, oX11 ra x0')), (ra 2, .inl (kI, 8, .inl q_told')), (ra 3, .inl (kI, 24, .inl q_kind')), (ra 4, .inl (kI, 24, .inl q_salt')), (ra 5, .inl (kI, 24, .inl q_pace')), (ra 6, .inl (kI, 24, .inl q_mute')), (ra 7, .inl (kI, 24, .inl q_late')), (ra 13, .inl (kI, 700, .inl q_tape)), (ra 1, .inl (kS, 4, .inr (.inr (.inr (.inr q_kinds)))))] t.heap ∧ va_D (va_A [(m0, .inr (11, oX11 ra x0)), (ra 2, .inl (kI, 8, .inl q_told)), (ra 3, .inl (kI, 24, .inl q_kind)), (ra 4, .inl (kI, 24, .inl q_salt)), (ra 5, .inl (kI, 24, .inl q_pace)), (ra 6, .inl (kI, 24, .inl q_mute)), (ra 7, .inl (kI, 24, .inl q_late)), (ra 13, .inl (kI, 700, .inl q_tape)), (ra 1, .inl (kS, 4, .inr (.inr (.inr (.inr q_kinds)))))] sz) [(m0, .inr (11, oX11 ra x0')), (ra 2, .inl (kI, 8, .inl q_told')), (ra 3, .inl (kI, 24, .inl q_kind')), (ra 4, .inl (kI, 24, .inl q_salt')), (ra 5, .inl (kI, 24, .inl q_pace')), (ra 6, .inl (kI, 24, .inl q_mute')), (ra 7, .inl (kI, 24, .inl q_late')), (ra 13, .inl (kI, 700, .inl q_tape)), (ra 1, .inl (kS, 4, .inr (.inr (.inr (.inr q_kinds)))))]) (va_A [(m0, .inr (11, oX11 ra x0)), (ra 2, .inl (kI, 8, .inl q_told)), (ra 3, .inl (kI, 24, .inl q_kind)), (ra 4, .inl (kI, 24, .inl q_salt)), (ra 5, .inl (kI, 24, .inl q_pace)), (ra 6, .inl (kI, 24, .inl q_mute)), (ra 7, .inl (kI, 24, .inl q_late)), (ra 13, .inl (kI, 700, .inl q_tape)), (ra 1, .inl (kS, 4, .inr (.inr (.inr (.inr q_kinds)))))] sz)) 0 0 (va_A [(m0, .inr (11, oX11 ra x0)), (ra 2, .inl (kI, 8, .inl q_told)), (ra 3, .inl (kI, 24, .inl q_kind)), (ra 4, .inl (kI, 24, .inl q_salt)), (ra 5, .inl (kI, 24, .inl q_pace)), (ra 6, .inl (kI, 24, .inl q_mute)), (ra 7, .inl (kI, 24, .inl q_late)), (ra 13, .inl (kI, 700, .inl q_tape)), (ra 1, .inl (kS, 4, .inr (.inr (.inr (.inr q_kinds)))))] sz) := by
  refine Met.ofW (cc := cX11_readRouter) (maxL := 3) (ret := none) (by decide) rfl ?_
  intro p e s m args0 below meth c s₁ B hml hv
  obtain ⟨hargs, hsz, hP, hE, hD0, hKL⟩ := hv
  have hx := B.exec
  have hb := B.bytes
  have hr := B.returns
  have hts := atoms_spec (ws := wsX11_readRouter) B.pre
  have hown : s.vm.findClass RX11 = some m.cls := findClass_of_methodNamed B.named
  have hlocks := B.notSynchronized
  have hK := hE.1
  have hin11 : ∀ w ∈ wsX110, w ∈ wsX11_readRouter := fun _ h9 => List.mem_cons_of_mem _ (List.mem_append_right _ h9)
  have hw_0 := hts (.fieldLink RX11 34 "PathProberModel" "told" "[I") (List.mem_of_getElem? (i := 1) rfl)
  have hw_1 := hts (.fieldLink RX11 184 "PathProberModel" "bad" "I") (List.mem_of_getElem? (i := 2) rfl)
  have hw_2 := hts (.fieldLink RX11 31 "PathProberModel" "kinds" "[Ljava/lang/String;") (List.mem_of_getElem? (i := 3) rfl)
  have hw_3 := hts (.fieldLink RX11 38 "PathProberModel" "kind" "[I") (List.mem_of_getElem? (i := 4) rfl)
  have hw_4 := hts (.fieldLink RX11 41 "PathProberModel" "salt" "[I") (List.mem_of_getElem? (i := 5) rfl)
  have hw_5 := hts (.fieldLink RX11 44 "PathProberModel" "pace" "[I") (List.mem_of_getElem? (i := 6) rfl)
  have hw_6 := hts (.fieldLink RX11 47 "PathProberModel" "mute" "[I") (List.mem_of_getElem? (i := 7) rfl)
  have hw_7 := hts (.fieldLink RX11 50 "PathProberModel" "late" "[I") (List.mem_of_getElem? (i := 8) rfl)
  subst hsz
  have hD := hD0.self (sz := s.heap.size)
  generalize hAe : va_A [(m0, .inr (11, oX11 ra x0)), (ra 2, .inl (kI, 8, .inl q_told)), (ra 3, .inl (kI, 24, .inl q_kind)), (ra 4, .inl (kI, 24, .inl q_salt)), (ra 5, .inl (kI, 24, .inl q_pace)), (ra 6, .inl (kI, 24, .inl q_mute)), (ra 7, .inl (kI, 24, .inl q_late)), (ra 13, .inl (kI, 700, .inl q_tape)), (ra 1, .inl (kS, 4, .inr (.inr (.inr (.inr q_kinds)))))] s.heap.size = A at hD hKL ⊢
  have hA : ∀ q : Nat, s.heap.size ≤ q → A q := fun q h => by rw [← hAe]; exact Or.inr h
  have hS : va_S A s.heap s.heap [] := va_S.rf
  have hP : va_P (dC, dI) vwCl [(m0, .inr (11, oX11 ra x0)), (ra 2, .inl (kI, 8, .inl q_told)), (ra 3, .inl (kI, 24, .inl q_kind)), (ra 4, .inl (kI, 24, .inl q_salt)), (ra 5, .inl (kI, 24, .inl q_pace)), (ra 6, .inl (kI, 24, .inl q_mute)), (ra 7, .inl (kI, 24, .inl q_late)), (ra 13, .inl (kI, 700, .inl q_tape)), (ra 1, .inl (kS, 4, .inr (.inr (.inr (.inr q_kinds)))))] s.heap := hP
  have hl := lv_entry ([.ref m0]) (n := 3) (Nat.le_of_ble_eq_true rfl)
  have hla : entryFrame m args0 3 = entryFrame m ([.ref m0] : List Value).toArray 3 := by rw [hargs]
  rw [hla, lg_entry_eq]
  generalize (lg_sl ([.ref m0]) ++ List.replicate (3 - (lg_sl ([.ref m0])).length) Slot.unset).toArray = ls at hl ⊢
  have hl : lv_has ls 3 [(0, .ref m0)] := hl
  refine lv_aload_n hx hb dX11_readRouter_0 rfl (lv_at hl 0 rfl) ?_
  refine va_get (D := (dC, dI)) (ci := 11) (v := .ref (ra 2)) (C := RX11) (T := TX11) (N := 61) hx hb hts hin11 hown hK hP 0 rfl rfl 3 (Nat.le_of_ble_eq_true rfl) hw_0 (fun _ h9 => h9) rfl dX11_readRouter_1 ?_
  refine lv_iconst (v := 4) hx hb dX11_readRouter_4 ic_4 ?_
  refine va_iald hx hb hK hP 1 1 rfl rfl (vp_in_nI (n := 4) (by decide) (by decide)) dX11_readRouter_5 ?_
  refine W.eq (g2 := F0 m 6 ls [.int (q_told 4)]) rfl ?_
  refine lv_bipush (v := 12) hx hb dX11_readRouter_6 bp_12 ?_
  refine lv_icmp_ne (tgt := 16) hx hb dX11_readRouter_8 rfl (fun c1 => ?_) (fun c1 => ?_)
  · have b2 : iv 0 11 (q_told 4) := iv_neHi c1 (hq_told 4 : iv 0 12 (q_told 4)) ivk_12 (by decide) (by decide)
    refine lv_aload_n hx hb dX11_readRouter_16 rfl (lv_at hl 0 rfl) ?_
    refine va_get (D := (dC, dI)) (ci := 11) (v := .int (x0 8)) (C := RX11) (T := TX11) (N := 61) hx hb hts hin11 hown hK hP 0 rfl rfl 22 (Nat.le_of_ble_eq_true rfl) hw_1 (fun _ h9 => h9) rfl dX11_readRouter_17 ?_
    refine lv_if_eq (tgt := 24) hx hb dX11_readRouter_20 rfl (fun c3 => ?_) (fun c3 => ?_)
    · have b4 : iv 0 0 (x0 8) := iv_eqL c3 ivk_0
      refine lv_aload_n hx hb dX11_readRouter_24 rfl (lv_at hl 0 rfl) ?_
      obtain ⟨hPc, hDc, hFc, hJn⟩ := cl_a (wc := [(m0, .inr (11, oX11 ra x0)), (ra 13, .inl (kI, 700, .inl q_tape))]) (wr := [(ra 2, .inl (kI, 8, .inl q_told)), (ra 3, .inl (kI, 24, .inl q_kind)), (ra 4, .inl (kI, 24, .inl q_salt)), (ra 5, .inl (kI, 24, .inl q_pace)), (ra 6, .inl (kI, 24, .inl q_mute)), (ra 7, .inl (kI, 24, .inl q_late)), (ra 1, .inl (kS, 4, .inr (.inr (.inr (.inr q_kinds)))))]) hP hD hS hA [0, 7] [1, 2, 3, 4, 5, 6, 8] rfl rfl (by decide +kernel)
      refine va_callv (va_runV (As := []) (rest := []) ⟨hx, hb, hml, hown, hts⟩ (s11_stepOn l dC dI kB kI kJ kZ kC kS s.heap.size m0 ra x0 q_tape tT nN (nextT tT nN sS) (hX) (hq_tape) (hRr.2) (stp_of hRr) (hTQ)) (cwV 0 hts gX11_readRouter_X11_stepOn rfl rfl rfl (by decide +kernel) ⟨Nat.le_of_ble_eq_true rfl, Nat.le_of_ble_eq_true rfl⟩) ⟨fun a U g mk q => by obtain ⟨q0, q1, qP, qE, qD⟩ := q; exact ⟨q0, q1, qP, kE_call qE, qD⟩, va_recv hK hP (ci := 11) (q0 := 0) rfl rfl, fun U hU hW => ⟨rfl, by rw [hU], by rw [hU]; exact hPc, kE_warm hW hE, hDc.weaken (fun _ _ _ _ => trivial)⟩⟩ rfl rfl hl.1 rfl (lv_room (Nat.le_of_ble_eq_true rfl)) dX11_readRouter_25 ⟨Nat.le_of_ble_eq_true rfl, Nat.le_of_ble_eq_true rfl⟩) hS (fun q _ h => hFc q h) hFc (fun u t H locs ht hvm w6 hB hz1 hk1 hS => ?_)
      obtain ⟨y7, hq8, hq9, hq10, hq11, hq12, hq13, hq14, hq15, hP1, hD1⟩ := hB
      try dsimp only at w6
      obtain ⟨hPa, hDa⟩ := hJn (w1 := [(m0, .inr (11, oX11 ra y7)), (ra 13, .inl (kI, 700, .inl q_tape))]) hk1 ht hP1 hD1
      clear hP hD hPc hDc hFc hJn hP1 hD1 hk1
      have hP : va_P (dC, dI) vwCl [(ra 2, .inl (kI, 8, .inl q_told)), (ra 3, .inl (kI, 24, .inl q_kind)), (ra 4, .inl (kI, 24, .inl q_salt)), (ra 5, .inl (kI, 24, .inl q_pace)), (ra 6, .inl (kI, 24, .inl q_mute)), (ra 7, .inl (kI, 24, .inl q_late)), (ra 1, .inl (kS, 4, .inr (.inr (.inr (.inr q_kinds))))), (m0, .inr (11, oX11 ra y7)), (ra 13, .inl (kI, 700, .inl q_tape))] H := hPa
      have hD : va_D A [(ra 2, .inl (kI, 8, .inl q_told)), (ra 3, .inl (kI, 24, .inl q_kind)), (ra 4, .inl (kI, 24, .inl q_salt)), (ra 5, .inl (kI, 24, .inl q_pace)), (ra 6, .inl (kI, 24, .inl q_mute)), (ra 7, .inl (kI, 24, .inl q_late)), (ra 1, .inl (kS, 4, .inr (.inr (.inr (.inr q_kinds))))), (m0, .inr (11, oX11 ra y7)), (ra 13, .inl (kI, 700, .inl q_tape))] := hDa
      clear hPa hDa
      refine W.widen (k := 0) (n := 0) (Nat.le_of_ble_eq_true rfl) (Nat.le_of_ble_eq_true rfl) ?_
      refine lv_bipush (v := 12) hx hb dX11_readRouter_28 bp_12 ?_
      refine lv_aload_n hx hb dX11_readRouter_30 rfl (lv_at hl 0 rfl) ?_
      refine va_get (D := (dC, dI)) (ci := 11) (v := .ref (ra 2)) (C := RX11) (T := TX11) (N := 61) hx hb hts hin11 hown hK hP 7 rfl rfl 3 (Nat.le_of_ble_eq_true rfl) hw_0 (fun _ h9 => h9) rfl dX11_readRouter_31 ?_
      refine lv_iconst (v := 4) hx hb dX11_readRouter_34 ic_4 ?_
      refine va_iald hx hb hK hP 0 1 rfl rfl (vp_in_nI (n := 4) (by decide) (by decide)) dX11_readRouter_35 ?_
      refine W.eq (g2 := F0 m 36 ls [.int (q_told 4), .int 12]) rfl ?_
      refine lv_iadd hx hb dX11_readRouter_36 ?_
      have b16 : iv 12 23 (12 + (q_told 4)) := iv_add ivk_12 b2 (by decide) (by decide) (by decide) (by decide)
      refine lv_istore_n (lv' := [(1, .int (12 + (q_told 4))), (0, .ref m0)]) hx hb dX11_readRouter_37 rfl hl (Nat.le_of_ble_eq_true rfl) rfl (fun ls hl => ?_)
      refine lv_aload_n hx hb dX11_readRouter_38 rfl (lv_at hl 1 rfl) ?_
      refine lv_aload_n hx hb dX11_readRouter_39 rfl (lv_at hl 1 rfl) ?_
      refine va_get (D := (dC, dI)) (ci := 11) (v := .ref (ra 1)) (C := RX11) (T := TX11) (N := 61) hx hb hts hin11 hown hK hP 7 rfl rfl 1 (Nat.le_of_ble_eq_true rfl) hw_2 (fun _ h9 => h9) rfl dX11_readRouter_40 ?_
      obtain ⟨hPc, hDc, hFc, hJn⟩ := cl_a (wc := [(m0, .inr (11, oX11 ra y7)), (ra 13, .inl (kI, 700, .inl q_tape)), (ra 1, .inl (kS, 4, .inr (.inr (.inr (.inr q_kinds)))))]) (wr := [(ra 2, .inl (kI, 8, .inl q_told)), (ra 3, .inl (kI, 24, .inl q_kind)), (ra 4, .inl (kI, 24, .inl q_salt)), (ra 5, .inl (kI, 24, .inl q_pace)), (ra 6, .inl (kI, 24, .inl q_mute)), (ra 7, .inl (kI, 24, .inl q_late))]) hP hD hS hA [7, 8, 6] [0, 1, 2, 3, 4, 5] rfl rfl (by decide +kernel)
      refine va_calli (va_runV (As := [.ref (ra 1)]) (rest := []) ⟨hx, hb, hml, hown, hts⟩ (s11_which l dC dI kB kI kJ kZ kC kS H.size adK adV m0 ra y7 q_tape (ra 1) q_kinds 4 tT nN (nextT tT nN sS) (hq8) (hq_tape) (by decide) (hki) (hq12) (hTQ)) (cwV 1 hts gX11_readRouter_X11_which rfl rfl rfl (by decide +kernel) ⟨Nat.le_of_ble_eq_true rfl, Nat.le_of_ble_eq_true rfl⟩) ⟨fun a U g mk q => by obtain ⟨q0, q1, qP, qE, qD, qL⟩ := q; exact ⟨q0, q1, qP, kE_call qE, qD, kL_call qL⟩, va_recv hK hP (ci := 11) (q0 := 7) rfl rfl, fun U hU hW => ⟨rfl, by rw [hU], by rw [hU]; exact hPc, kE_warm hW hE, hDc.weaken (fun _ _ _ _ => trivial), kL_at hKL hS hFc hW hU⟩⟩ rfl rfl hl.1 rfl (lv_room (Nat.le_of_ble_eq_true rfl)) dX11_readRouter_43 ⟨Nat.le_of_ble_eq_true rfl, Nat.le_of_ble_eq_true rfl⟩) hS (fun q _ h => hFc q h) hFc (fun r17 u t H locs ht hvm w18 hB hz1 hk1 hS => ?_)
      obtain ⟨hP1, hD1⟩ := hB
      try dsimp only at w18
      obtain ⟨hPa, hDa⟩ := hJn (w1 := [(m0, .inr (11, oX11 ra y7)), (ra 13, .inl (kI, 700, .inl q_tape)), (ra 1, .inl (kS, 4, .inr (.inr (.inr (.inr q_kinds)))))]) hk1 ht hP1 hD1
      clear hP hD hPc hDc hFc hJn hP1 hD1 hk1
      have hP : va_P (dC, dI) vwCl [(ra 2, .inl (kI, 8, .inl q_told)), (ra 3, .inl (kI, 24, .inl q_kind)), (ra 4, .inl (kI, 24, .inl q_salt)), (ra 5, .inl (kI, 24, .inl q_pace)), (ra 6, .inl (kI, 24, .inl q_mute)), (ra 7, .inl (kI, 24, .inl q_late)), (m0, .inr (11, oX11 ra y7)), (ra 13, .inl (kI, 700, .inl q_tape)), (ra 1, .inl (kS, 4, .inr (.inr (.inr (.inr q_kinds)))))] H := hPa
      have hD : va_D A [(ra 2, .inl (kI, 8, .inl q_told)), (ra 3, .inl (kI, 24, .inl q_kind)), (ra 4, .inl (kI, 24, .inl q_salt)), (ra 5, .inl (kI, 24, .inl q_pace)), (ra 6, .inl (kI, 24, .inl q_mute)), (ra 7, .inl (kI, 24, .inl q_late)), (m0, .inr (11, oX11 ra y7)), (ra 13, .inl (kI, 700, .inl q_tape)), (ra 1, .inl (kS, 4, .inr (.inr (.inr (.inr q_kinds)))))] := hDa
      clear hPa hDa
      refine W.widen (k := 0) (n := 0) (Nat.le_of_ble_eq_true rfl) (Nat.le_of_ble_eq_true rfl) ?_
      have hwk := w18.2
      refine lv_istore_n (lv' := [(2, .int r17), (1, .int (12 + (q_told 4))), (0, .ref m0)]) hx hb dX11_readRouter_46 rfl hl (Nat.le_of_ble_eq_true rfl) rfl (fun ls hl => ?_)
      refine lv_iload_n hx hb dX11_readRouter_47 rfl (lv_at hl 0 rfl) ?_
      refine lv_iconst (v := (-1)) hx hb dX11_readRouter_48 ic_m1 ?_
      refine lv_icmp_ne (tgt := 57) hx hb dX11_readRouter_49 rfl (fun c19 => ?_) (fun c19 => ?_)
      · have b20 : iv 0 3 r17 := iv_neLo c19 w18.1 ivk_m1 (by decide) (by decide)
        have hrr21 : RRd tT nN y7 (kndT tT (rtr1 tT nN sS)) := (kq_y hwk c19).1 ▸ hq12
        refine lv_aload_n hx hb dX11_readRouter_57 rfl (lv_at hl 2 rfl) ?_
        refine va_get (D := (dC, dI)) (ci := 11) (v := .int (y7 8)) (C := RX11) (T := TX11) (N := 61) hx hb hts hin11 hown hK hP 6 rfl rfl 22 (Nat.le_of_ble_eq_true rfl) hw_1 (fun _ h9 => h9) rfl dX11_readRouter_58 ?_
        refine lv_if_ne (tgt := 68) hx hb dX11_readRouter_61 rfl (fun c22 => ?_) (fun c22 => ?_)
        · have b23 : iv 1 5 (y7 8) := iv_neLo c22 (hq8 8 : iv 0 5 (y7 8)) ivk_0 (by decide) (by decide)
          have hrr24 : RRd tT nN y7 (rtr2 tT nN sS) := rr_stepN hrr21 c22
          refine lv_aload_n hx hb dX11_readRouter_68 rfl (lv_at hl 2 rfl) ?_
          refine va_get (D := (dC, dI)) (ci := 11) (v := .ref (ra 3)) (C := RX11) (T := TX11) (N := 61) hx hb hts hin11 hown hK hP 6 rfl rfl 4 (Nat.le_of_ble_eq_true rfl) hw_3 (fun _ h9 => h9) rfl dX11_readRouter_69 ?_
          refine lv_iload_n hx hb dX11_readRouter_72 rfl (lv_at hl 1 rfl) ?_
          refine lv_iload_n hx hb dX11_readRouter_73 rfl (lv_at hl 0 rfl) ?_
          refine va_iast hx hb hK hP hD hS 1 1 rfl rfl (iv_in b16 (by decide) (by decide)) dX11_readRouter_74 (fun H locs hPa hDa hS => ?_)
          clear hP hD
          have hP : va_P (dC, dI) vwCl [(ra 2, .inl (kI, 8, .inl q_told)), (ra 3, .inl (kI, 24, .inl (upd q_kind (12 + (q_told 4)).toNatClampNeg r17))), (ra 4, .inl (kI, 24, .inl q_salt)), (ra 5, .inl (kI, 24, .inl q_pace)), (ra 6, .inl (kI, 24, .inl q_mute)), (ra 7, .inl (kI, 24, .inl q_late)), (m0, .inr (11, oX11 ra y7)), (ra 13, .inl (kI, 700, .inl q_tape)), (ra 1, .inl (kS, 4, .inr (.inr (.inr (.inr q_kinds)))))] H := hPa
          have hD : va_D A [(ra 2, .inl (kI, 8, .inl q_told)), (ra 3, .inl (kI, 24, .inl (upd q_kind (12 + (q_told 4)).toNatClampNeg r17))), (ra 4, .inl (kI, 24, .inl q_salt)), (ra 5, .inl (kI, 24, .inl q_pace)), (ra 6, .inl (kI, 24, .inl q_mute)), (ra 7, .inl (kI, 24, .inl q_late)), (m0, .inr (11, oX11 ra y7)), (ra 13, .inl (kI, 700, .inl q_tape)), (ra 1, .inl (kS, 4, .inr (.inr (.inr (.inr q_kinds)))))] := hDa
          clear hPa hDa
          refine lv_aload_n hx hb dX11_readRouter_75 rfl (lv_at hl 2 rfl) ?_
          refine va_get (D := (dC, dI)) (ci := 11) (v := .ref (ra 4)) (C := RX11) (T := TX11) (N := 61) hx hb hts hin11 hown hK hP 6 rfl rfl 5 (Nat.le_of_ble_eq_true rfl) hw_4 (fun _ h9 => h9) rfl dX11_readRouter_76 ?_
          refine lv_iload_n hx hb dX11_readRouter_79 rfl (lv_at hl 1 rfl) ?_
          refine lv_aload_n hx hb dX11_readRouter_80 rfl (lv_at hl 2 rfl) ?_
          refine lv_iconst (v := 0) hx hb dX11_readRouter_81 ic_0 ?_
          refine lv_bipush (v := 15) hx hb dX11_readRouter_82 bp_15 ?_
          obtain ⟨hPc, hDc, hFc, hJn⟩ := cl_a (wc := [(m0, .inr (11, oX11 ra y7)), (ra 13, .inl (kI, 700, .inl q_tape))]) (wr := [(ra 2, .inl (kI, 8, .inl q_told)), (ra 3, .inl (kI, 24, .inl (upd q_kind (12 + (q_told 4)).toNatClampNeg r17))), (ra 4, .inl (kI, 24, .inl q_salt)), (ra 5, .inl (kI, 24, .inl q_pace)), (ra 6, .inl (kI, 24, .inl q_mute)), (ra 7, .inl (kI, 24, .inl q_late)), (ra 1, .inl (kS, 4, .inr (.inr (.inr (.inr q_kinds)))))]) hP hD hS hA [6, 7] [0, 1, 2, 3, 4, 5, 8] rfl rfl (by decide +kernel)
          refine va_calli (va_runV (As := [.int 0, .int 15]) (rest := [.int (12 + (q_told 4)), .ref (ra 4)]) ⟨hx, hb, hml, hown, hts⟩ (s11_readNumber_0_15 l dC dI kB kI kJ kZ kC kS H.size m0 ra y7 q_tape tT nN (rtr2 tT nN sS) (hq8) (hq_tape) (hrr24) (hTQ)) (cwV 2 hts gX11_readRouter_X11_readNumber rfl rfl rfl (by decide +kernel) ⟨Nat.le_of_ble_eq_true rfl, Nat.le_of_ble_eq_true rfl⟩) ⟨fun a U g mk q => by obtain ⟨q0, q1, qP, qE, qD⟩ := q; exact ⟨q0, q1, qP, kE_call qE, qD⟩, va_recv hK hP (ci := 11) (q0 := 6) rfl rfl, fun U hU hW => ⟨rfl, by rw [hU], by rw [hU]; exact hPc, kE_warm hW hE, hDc.weaken (fun _ _ _ _ => trivial)⟩⟩ rfl rfl hl.1 rfl (lv_room (Nat.le_of_ble_eq_true rfl)) dX11_readRouter_84 ⟨Nat.le_of_ble_eq_true rfl, Nat.le_of_ble_eq_true rfl⟩) hS (fun q _ h => hFc q h) hFc (fun r25 u t H locs ht hvm w26 hB hz1 hk1 hS => ?_)
          obtain ⟨y27, hq28, hq29, hq30, hq31, hq32, hq33, hq34, hP1, hD1⟩ := hB
          try dsimp only at w26
          obtain ⟨hPa, hDa⟩ := hJn (w1 := [(m0, .inr (11, oX11 ra y27)), (ra 13, .inl (kI, 700, .inl q_tape))]) hk1 ht hP1 hD1
          clear hP hD hPc hDc hFc hJn hP1 hD1 hk1
          have hP : va_P (dC, dI) vwCl [(ra 2, .inl (kI, 8, .inl q_told)), (ra 3, .inl (kI, 24, .inl (upd q_kind (12 + (q_told 4)).toNatClampNeg r17))), (ra 4, .inl (kI, 24, .inl q_salt)), (ra 5, .inl (kI, 24, .inl q_pace)), (ra 6, .inl (kI, 24, .inl q_mute)), (ra 7, .inl (kI, 24, .inl q_late)), (ra 1, .inl (kS, 4, .inr (.inr (.inr (.inr q_kinds))))), (m0, .inr (11, oX11 ra y27)), (ra 13, .inl (kI, 700, .inl q_tape))] H := hPa
          have hD : va_D A [(ra 2, .inl (kI, 8, .inl q_told)), (ra 3, .inl (kI, 24, .inl (upd q_kind (12 + (q_told 4)).toNatClampNeg r17))), (ra 4, .inl (kI, 24, .inl q_salt)), (ra 5, .inl (kI, 24, .inl q_pace)), (ra 6, .inl (kI, 24, .inl q_mute)), (ra 7, .inl (kI, 24, .inl q_late)), (ra 1, .inl (kS, 4, .inr (.inr (.inr (.inr q_kinds))))), (m0, .inr (11, oX11 ra y27)), (ra 13, .inl (kI, 700, .inl q_tape))] := hDa
          clear hPa hDa
          refine W.widen (k := 0) (n := 0) (Nat.le_of_ble_eq_true rfl) (Nat.le_of_ble_eq_true rfl) ?_
          have hv2 := w26.2
          refine va_iast hx hb hK hP hD hS 2 1 rfl rfl (iv_in b16 (by decide) (by decide)) dX11_readRouter_87 (fun H locs hPa hDa hS => ?_)
          clear hP hD
          have hP : va_P (dC, dI) vwCl [(ra 2, .inl (kI, 8, .inl q_told)), (ra 3, .inl (kI, 24, .inl (upd q_kind (12 + (q_told 4)).toNatClampNeg r17))), (ra 4, .inl (kI, 24, .inl (upd q_salt (12 + (q_told 4)).toNatClampNeg r25))), (ra 5, .inl (kI, 24, .inl q_pace)), (ra 6, .inl (kI, 24, .inl q_mute)), (ra 7, .inl (kI, 24, .inl q_late)), (ra 1, .inl (kS, 4, .inr (.inr (.inr (.inr q_kinds))))), (m0, .inr (11, oX11 ra y27)), (ra 13, .inl (kI, 700, .inl q_tape))] H := hPa
          have hD : va_D A [(ra 2, .inl (kI, 8, .inl q_told)), (ra 3, .inl (kI, 24, .inl (upd q_kind (12 + (q_told 4)).toNatClampNeg r17))), (ra 4, .inl (kI, 24, .inl (upd q_salt (12 + (q_told 4)).toNatClampNeg r25))), (ra 5, .inl (kI, 24, .inl q_pace)), (ra 6, .inl (kI, 24, .inl q_mute)), (ra 7, .inl (kI, 24, .inl q_late)), (ra 1, .inl (kS, 4, .inr (.inr (.inr (.inr q_kinds))))), (m0, .inr (11, oX11 ra y27)), (ra 13, .inl (kI, 700, .inl q_tape))] := hDa
          clear hPa hDa
          have hrr35 : RRd tT nN y27 (rtr3 tT nN sS) := hq31
          refine lv_aload_n hx hb dX11_readRouter_88 rfl (lv_at hl 2 rfl) ?_
          refine va_get (D := (dC, dI)) (ci := 11) (v := .ref (ra 5)) (C := RX11) (T := TX11) (N := 61) hx hb hts hin11 hown hK hP 7 rfl rfl 6 (Nat.le_of_ble_eq_true rfl) hw_5 (fun _ h9 => h9) rfl dX11_readRouter_89 ?_
          refine lv_iload_n hx hb dX11_readRouter_92 rfl (lv_at hl 1 rfl) ?_
          refine lv_aload_n hx hb dX11_readRouter_93 rfl (lv_at hl 2 rfl) ?_
          refine lv_iconst (v := 1) hx hb dX11_readRouter_94 ic_1 ?_
          refine lv_bipush (v := 60) hx hb dX11_readRouter_95 bp_60 ?_
          obtain ⟨hPc, hDc, hFc, hJn⟩ := cl_a (wc := [(m0, .inr (11, oX11 ra y27)), (ra 13, .inl (kI, 700, .inl q_tape))]) (wr := [(ra 2, .inl (kI, 8, .inl q_told)), (ra 3, .inl (kI, 24, .inl (upd q_kind (12 + (q_told 4)).toNatClampNeg r17))), (ra 4, .inl (kI, 24, .inl (upd q_salt (12 + (q_told 4)).toNatClampNeg r25))), (ra 5, .inl (kI, 24, .inl q_pace)), (ra 6, .inl (kI, 24, .inl q_mute)), (ra 7, .inl (kI, 24, .inl q_late)), (ra 1, .inl (kS, 4, .inr (.inr (.inr (.inr q_kinds)))))]) hP hD hS hA [7, 8] [0, 1, 2, 3, 4, 5, 6] rfl rfl (by decide +kernel)
          refine va_calli (va_runV (As := [.int 1, .int 60]) (rest := [.int (12 + (q_told 4)), .ref (ra 5)]) ⟨hx, hb, hml, hown, hts⟩ (s11_readNumber_1_60 l dC dI kB kI kJ kZ kC kS H.size m0 ra y27 q_tape tT nN (rtr3 tT nN sS) (hq28) (hq_tape) (hrr35) (hTQ)) (cwV 2 hts gX11_readRouter_X11_readNumber rfl rfl rfl (by decide +kernel) ⟨Nat.le_of_ble_eq_true rfl, Nat.le_of_ble_eq_true rfl⟩) ⟨fun a U g mk q => by obtain ⟨q0, q1, qP, qE, qD⟩ := q; exact ⟨q0, q1, qP, kE_call qE, qD⟩, va_recv hK hP (ci := 11) (q0 := 7) rfl rfl, fun U hU hW => ⟨rfl, by rw [hU], by rw [hU]; exact hPc, kE_warm hW hE, hDc.weaken (fun _ _ _ _ => trivial)⟩⟩ rfl rfl hl.1 rfl (lv_room (Nat.le_of_ble_eq_true rfl)) dX11_readRouter_97 ⟨Nat.le_of_ble_eq_true rfl, Nat.le_of_ble_eq_true rfl⟩) hS (fun q _ h => hFc q h) hFc (fun r36 u t H locs ht hvm w37 hB hz1 hk1 hS => ?_)
          obtain ⟨y38, hq39, hq40, hq41, hq42, hq43, hq44, hq45, hP1, hD1⟩ := hB
          try dsimp only at w37
          obtain ⟨hPa, hDa⟩ := hJn (w1 := [(m0, .inr (11, oX11 ra y38)), (ra 13, .inl (kI, 700, .inl q_tape))]) hk1 ht hP1 hD1
          clear hP hD hPc hDc hFc hJn hP1 hD1 hk1
          have hP : va_P (dC, dI) vwCl [(ra 2, .inl (kI, 8, .inl q_told)), (ra 3, .inl (kI, 24, .inl (upd q_kind (12 + (q_told 4)).toNatClampNeg r17))), (ra 4, .inl (kI, 24, .inl (upd q_salt (12 + (q_told 4)).toNatClampNeg r25))), (ra 5, .inl (kI, 24, .inl q_pace)), (ra 6, .inl (kI, 24, .inl q_mute)), (ra 7, .inl (kI, 24, .inl q_late)), (ra 1, .inl (kS, 4, .inr (.inr (.inr (.inr q_kinds))))), (m0, .inr (11, oX11 ra y38)), (ra 13, .inl (kI, 700, .inl q_tape))] H := hPa
          have hD : va_D A [(ra 2, .inl (kI, 8, .inl q_told)), (ra 3, .inl (kI, 24, .inl (upd q_kind (12 + (q_told 4)).toNatClampNeg r17))), (ra 4, .inl (kI, 24, .inl (upd q_salt (12 + (q_told 4)).toNatClampNeg r25))), (ra 5, .inl (kI, 24, .inl q_pace)), (ra 6, .inl (kI, 24, .inl q_mute)), (ra 7, .inl (kI, 24, .inl q_late)), (ra 1, .inl (kS, 4, .inr (.inr (.inr (.inr q_kinds))))), (m0, .inr (11, oX11 ra y38)), (ra 13, .inl (kI, 700, .inl q_tape))] := hDa
          clear hPa hDa
          refine W.widen (k := 0) (n := 0) (Nat.le_of_ble_eq_true rfl) (Nat.le_of_ble_eq_true rfl) ?_
          have hv3 := w37.2
          refine va_iast hx hb hK hP hD hS 3 1 rfl rfl (iv_in b16 (by decide) (by decide)) dX11_readRouter_100 (fun H locs hPa hDa hS => ?_)
          clear hP hD
          have hP : va_P (dC, dI) vwCl [(ra 2, .inl (kI, 8, .inl q_told)), (ra 3, .inl (kI, 24, .inl (upd q_kind (12 + (q_told 4)).toNatClampNeg r17))), (ra 4, .inl (kI, 24, .inl (upd q_salt (12 + (q_told 4)).toNatClampNeg r25))), (ra 5, .inl (kI, 24, .inl (upd q_pace (12 + (q_told 4)).toNatClampNeg r36))), (ra 6, .inl (kI, 24, .inl q_mute)), (ra 7, .inl (kI, 24, .inl q_late)), (ra 1, .inl (kS, 4, .inr (.inr (.inr (.inr q_kinds))))), (m0, .inr (11, oX11 ra y38)), (ra 13, .inl (kI, 700, .inl q_tape))] H := hPa
          have hD : va_D A [(ra 2, .inl (kI, 8, .inl q_told)), (ra 3, .inl (kI, 24, .inl (upd q_kind (12 + (q_told 4)).toNatClampNeg r17))), (ra 4, .inl (kI, 24, .inl (upd q_salt (12 + (q_told 4)).toNatClampNeg r25))), (ra 5, .inl (kI, 24, .inl (upd q_pace (12 + (q_told 4)).toNatClampNeg r36))), (ra 6, .inl (kI, 24, .inl q_mute)), (ra 7, .inl (kI, 24, .inl q_late)), (ra 1, .inl (kS, 4, .inr (.inr (.inr (.inr q_kinds))))), (m0, .inr (11, oX11 ra y38)), (ra 13, .inl (kI, 700, .inl q_tape))] := hDa
          clear hPa hDa
          have hrr46 : RRd tT nN y38 (rtr4 tT nN sS) := hq42
          refine lv_aload_n hx hb dX11_readRouter_101 rfl (lv_at hl 2 rfl) ?_
          refine va_get (D := (dC, dI)) (ci := 11) (v := .ref (ra 6)) (C := RX11) (T := TX11) (N := 61) hx hb hts hin11 hown hK hP 7 rfl rfl 7 (Nat.le_of_ble_eq_true rfl) hw_6 (fun _ h9 => h9) rfl dX11_readRouter_102 ?_
          refine lv_iload_n hx hb dX11_readRouter_105 rfl (lv_at hl 1 rfl) ?_
          refine lv_aload_n hx hb dX11_readRouter_106 rfl (lv_at hl 2 rfl) ?_
          refine va_ldcS hx hb hown hKL.2.2.2.2.2.2.2.2.2.2.2.2.2.2.2.2.2.2.2.2.2.1 dX11_readRouter_107 ?_
          obtain ⟨hPc, hDc, hFc, hJn⟩ := cl_a (wc := [(m0, .inr (11, oX11 ra y38)), (ra 13, .inl (kI, 700, .inl q_tape))]) (wr := [(ra 2, .inl (kI, 8, .inl q_told)), (ra 3, .inl (kI, 24, .inl (upd q_kind (12 + (q_told 4)).toNatClampNeg r17))), (ra 4, .inl (kI, 24, .inl (upd q_salt (12 + (q_told 4)).toNatClampNeg r25))), (ra 5, .inl (kI, 24, .inl (upd q_pace (12 + (q_told 4)).toNatClampNeg r36))), (ra 6, .inl (kI, 24, .inl q_mute)), (ra 7, .inl (kI, 24, .inl q_late)), (ra 1, .inl (kS, 4, .inr (.inr (.inr (.inr q_kinds)))))]) hP hD hS hA [7, 8] [0, 1, 2, 3, 4, 5, 6] rfl rfl (by decide +kernel)
          refine va_calli (va_runV (As := [.ref (adK 8)]) (rest := [.int (12 + (q_told 4)), .ref (ra 6)]) ⟨hx, hb, hml, hown, hts⟩ (s11_is l dC dI kB kI kJ kZ kC kS H.size adK adV m0 ra y38 q_tape 8 tT nN (rtr4 tT nN sS) (hq39) (hq_tape) ((by decide)) (hrr46) (hTQ)) (cwV 1 hts gX11_readRouter_X11_is rfl rfl rfl (by decide +kernel) ⟨Nat.le_of_ble_eq_true rfl, Nat.le_of_ble_eq_true rfl⟩) ⟨fun a U g mk q => by obtain ⟨q0, q1, qP, qE, qD, qL⟩ := q; exact ⟨q0, q1, qP, kE_call qE, qD, kL_call qL⟩, va_recv hK hP (ci := 11) (q0 := 7) rfl rfl, fun U hU hW => ⟨rfl, by rw [hU], by rw [hU]; exact hPc, kE_warm hW hE, hDc.weaken (fun _ _ _ _ => trivial), kL_at hKL hS hFc hW hU⟩⟩ rfl rfl hl.1 rfl (lv_room (Nat.le_of_ble_eq_true rfl)) dX11_readRouter_109 ⟨Nat.le_of_ble_eq_true rfl, Nat.le_of_ble_eq_true rfl⟩) hS (fun q _ h => hFc q h) hFc (fun r47 u t H locs ht hvm w48 hB hz1 hk1 hS => ?_)
          obtain ⟨hP1, hD1⟩ := hB
          try dsimp only at w48
          obtain ⟨hPa, hDa⟩ := hJn (w1 := [(m0, .inr (11, oX11 ra y38)), (ra 13, .inl (kI, 700, .inl q_tape))]) hk1 ht hP1 hD1
          clear hP hD hPc hDc hFc hJn hP1 hD1 hk1
          have hP : va_P (dC, dI) vwCl [(ra 2, .inl (kI, 8, .inl q_told)), (ra 3, .inl (kI, 24, .inl (upd q_kind (12 + (q_told 4)).toNatClampNeg r17))), (ra 4, .inl (kI, 24, .inl (upd q_salt (12 + (q_told 4)).toNatClampNeg r25))), (ra 5, .inl (kI, 24, .inl (upd q_pace (12 + (q_told 4)).toNatClampNeg r36))), (ra 6, .inl (kI, 24, .inl q_mute)), (ra 7, .inl (kI, 24, .inl q_late)), (ra 1, .inl (kS, 4, .inr (.inr (.inr (.inr q_kinds))))), (m0, .inr (11, oX11 ra y38)), (ra 13, .inl (kI, 700, .inl q_tape))] H := hPa
          have hD : va_D A [(ra 2, .inl (kI, 8, .inl q_told)), (ra 3, .inl (kI, 24, .inl (upd q_kind (12 + (q_told 4)).toNatClampNeg r17))), (ra 4, .inl (kI, 24, .inl (upd q_salt (12 + (q_told 4)).toNatClampNeg r25))), (ra 5, .inl (kI, 24, .inl (upd q_pace (12 + (q_told 4)).toNatClampNeg r36))), (ra 6, .inl (kI, 24, .inl q_mute)), (ra 7, .inl (kI, 24, .inl q_late)), (ra 1, .inl (kS, 4, .inr (.inr (.inr (.inr q_kinds))))), (m0, .inr (11, oX11 ra y38)), (ra 13, .inl (kI, 700, .inl q_tape))] := hDa
          clear hPa hDa
          refine W.widen (k := 0) (n := 0) (Nat.le_of_ble_eq_true rfl) (Nat.le_of_ble_eq_true rfl) ?_
          obtain ⟨w48, b49⟩ := w48
          subst w48
          refine lv_if_eq (tgt := 119) hx hb dX11_readRouter_112 rfl (fun c50 => ?_) (fun c50 => ?_)
          · have b51 : iv 0 0 (wS tT 8 (rtr4 tT nN sS)) := iv_eqL c50 ivk_0
            refine lv_iconst (v := 0) hx hb dX11_readRouter_119 ic_0 ?_
            refine va_iast hx hb hK hP hD hS 4 1 rfl rfl (iv_in b16 (by decide) (by decide)) dX11_readRouter_120 (fun H locs hPa hDa hS => ?_)
            clear hP hD
            have hP : va_P (dC, dI) vwCl [(ra 2, .inl (kI, 8, .inl q_told)), (ra 3, .inl (kI, 24, .inl (upd q_kind (12 + (q_told 4)).toNatClampNeg r17))), (ra 4, .inl (kI, 24, .inl (upd q_salt (12 + (q_told 4)).toNatClampNeg r25))), (ra 5, .inl (kI, 24, .inl (upd q_pace (12 + (q_told 4)).toNatClampNeg r36))), (ra 6, .inl (kI, 24, .inl (upd q_mute (12 + (q_told 4)).toNatClampNeg 0))), (ra 7, .inl (kI, 24, .inl q_late)), (ra 1, .inl (kS, 4, .inr (.inr (.inr (.inr q_kinds))))), (m0, .inr (11, oX11 ra y38)), (ra 13, .inl (kI, 700, .inl q_tape))] H := hPa
            have hD : va_D A [(ra 2, .inl (kI, 8, .inl q_told)), (ra 3, .inl (kI, 24, .inl (upd q_kind (12 + (q_told 4)).toNatClampNeg r17))), (ra 4, .inl (kI, 24, .inl (upd q_salt (12 + (q_told 4)).toNatClampNeg r25))), (ra 5, .inl (kI, 24, .inl (upd q_pace (12 + (q_told 4)).toNatClampNeg r36))), (ra 6, .inl (kI, 24, .inl (upd q_mute (12 + (q_told 4)).toNatClampNeg 0))), (ra 7, .inl (kI, 24, .inl q_late)), (ra 1, .inl (kS, 4, .inr (.inr (.inr (.inr q_kinds))))), (m0, .inr (11, oX11 ra y38)), (ra 13, .inl (kI, 700, .inl q_tape))] := hDa
            clear hPa hDa
            refine lv_aload_n hx hb dX11_readRouter_121 rfl (lv_at hl 2 rfl) ?_
            refine va_get (D := (dC, dI)) (ci := 11) (v := .ref (ra 7)) (C := RX11) (T := TX11) (N := 61) hx hb hts hin11 hown hK hP 7 rfl rfl 8 (Nat.le_of_ble_eq_true rfl) hw_7 (fun _ h9 => h9) rfl dX11_readRouter_122 ?_
            refine lv_iload_n hx hb dX11_readRouter_125 rfl (lv_at hl 1 rfl) ?_
            refine lv_aload_n hx hb dX11_readRouter_126 rfl (lv_at hl 2 rfl) ?_
            refine va_ldcS hx hb hown hKL.2.2.2.2.2.2.2.2.2.2.2.2.2.2.2.2.2.2.2.2.2.2 dX11_readRouter_127 ?_
            obtain ⟨hPc, hDc, hFc, hJn⟩ := cl_a (wc := [(m0, .inr (11, oX11 ra y38)), (ra 13, .inl (kI, 700, .inl q_tape))]) (wr := [(ra 2, .inl (kI, 8, .inl q_told)), (ra 3, .inl (kI, 24, .inl (upd q_kind (12 + (q_told 4)).toNatClampNeg r17))), (ra 4, .inl (kI, 24, .inl (upd q_salt (12 + (q_told 4)).toNatClampNeg r25))), (ra 5, .inl (kI, 24, .inl (upd q_pace (12 + (q_told 4)).toNatClampNeg r36))), (ra 6, .inl (kI, 24, .inl (upd q_mute (12 + (q_told 4)).toNatClampNeg 0))), (ra 7, .inl (kI, 24, .inl q_late)), (ra 1, .inl (kS, 4, .inr (.inr (.inr (.inr q_kinds)))))]) hP hD hS hA [7, 8] [0, 1, 2, 3, 4, 5, 6] rfl rfl (by decide +kernel)
            refine va_calli (va_runV (As := [.ref (adK 9)]) (rest := [.int (12 + (q_told 4)), .ref (ra 7)]) ⟨hx, hb, hml, hown, hts⟩ (s11_is l dC dI kB kI kJ kZ kC kS H.size adK adV m0 ra y38 q_tape 9 tT nN (rtr4 tT nN sS) (hq39) (hq_tape) ((by decide)) (hrr46) (hTQ)) (cwV 1 hts gX11_readRouter_X11_is rfl rfl rfl (by decide +kernel) ⟨Nat.le_of_ble_eq_true rfl, Nat.le_of_ble_eq_true rfl⟩) ⟨fun a U g mk q => by obtain ⟨q0, q1, qP, qE, qD, qL⟩ := q; exact ⟨q0, q1, qP, kE_call qE, qD, kL_call qL⟩, va_recv hK hP (ci := 11) (q0 := 7) rfl rfl, fun U hU hW => ⟨rfl, by rw [hU], by rw [hU]; exact hPc, kE_warm hW hE, hDc.weaken (fun _ _ _ _ => trivial), kL_at hKL hS hFc hW hU⟩⟩ rfl rfl hl.1 rfl (lv_room (Nat.le_of_ble_eq_true rfl)) dX11_readRouter_129 ⟨Nat.le_of_ble_eq_true rfl, Nat.le_of_ble_eq_true rfl⟩) hS (fun q _ h => hFc q h) hFc (fun r52 u t H locs ht hvm w53 hB hz1 hk1 hS => ?_)
            obtain ⟨hP1, hD1⟩ := hB
            try dsimp only at w53
            obtain ⟨hPa, hDa⟩ := hJn (w1 := [(m0, .inr (11, oX11 ra y38)), (ra 13, .inl (kI, 700, .inl q_tape))]) hk1 ht hP1 hD1
            clear hP hD hPc hDc hFc hJn hP1 hD1 hk1
            have hP : va_P (dC, dI) vwCl [(ra 2, .inl (kI, 8, .inl q_told)), (ra 3, .inl (kI, 24, .inl (upd q_kind (12 + (q_told 4)).toNatClampNeg r17))), (ra 4, .inl (kI, 24, .inl (upd q_salt (12 + (q_told 4)).toNatClampNeg r25))), (ra 5, .inl (kI, 24, .inl (upd q_pace (12 + (q_told 4)).toNatClampNeg r36))), (ra 6, .inl (kI, 24, .inl (upd q_mute (12 + (q_told 4)).toNatClampNeg 0))), (ra 7, .inl (kI, 24, .inl q_late)), (ra 1, .inl (kS, 4, .inr (.inr (.inr (.inr q_kinds))))), (m0, .inr (11, oX11 ra y38)), (ra 13, .inl (kI, 700, .inl q_tape))] H := hPa
            have hD : va_D A [(ra 2, .inl (kI, 8, .inl q_told)), (ra 3, .inl (kI, 24, .inl (upd q_kind (12 + (q_told 4)).toNatClampNeg r17))), (ra 4, .inl (kI, 24, .inl (upd q_salt (12 + (q_told 4)).toNatClampNeg r25))), (ra 5, .inl (kI, 24, .inl (upd q_pace (12 + (q_told 4)).toNatClampNeg r36))), (ra 6, .inl (kI, 24, .inl (upd q_mute (12 + (q_told 4)).toNatClampNeg 0))), (ra 7, .inl (kI, 24, .inl q_late)), (ra 1, .inl (kS, 4, .inr (.inr (.inr (.inr q_kinds))))), (m0, .inr (11, oX11 ra y38)), (ra 13, .inl (kI, 700, .inl q_tape))] := hDa
            clear hPa hDa
            refine W.widen (k := 0) (n := 0) (Nat.le_of_ble_eq_true rfl) (Nat.le_of_ble_eq_true rfl) ?_
            obtain ⟨w53, b54⟩ := w53
            subst w53
            refine lv_if_eq (tgt := 139) hx hb dX11_readRouter_132 rfl (fun c55 => ?_) (fun c55 => ?_)
            · have b56 : iv 0 0 (wS tT 9 (rtr4 tT nN sS)) := iv_eqL c55 ivk_0
              refine lv_iconst (v := 0) hx hb dX11_readRouter_139 ic_0 ?_
              refine va_iast hx hb hK hP hD hS 5 1 rfl rfl (iv_in b16 (by decide) (by decide)) dX11_readRouter_140 (fun H locs hPa hDa hS => ?_)
              clear hP hD
              have hP : va_P (dC, dI) vwCl [(ra 2, .inl (kI, 8, .inl q_told)), (ra 3, .inl (kI, 24, .inl (upd q_kind (12 + (q_told 4)).toNatClampNeg r17))), (ra 4, .inl (kI, 24, .inl (upd q_salt (12 + (q_told 4)).toNatClampNeg r25))), (ra 5, .inl (kI, 24, .inl (upd q_pace (12 + (q_told 4)).toNatClampNeg r36))), (ra 6, .inl (kI, 24, .inl (upd q_mute (12 + (q_told 4)).toNatClampNeg 0))), (ra 7, .inl (kI, 24, .inl (upd q_late (12 + (q_told 4)).toNatClampNeg 0))), (ra 1, .inl (kS, 4, .inr (.inr (.inr (.inr q_kinds))))), (m0, .inr (11, oX11 ra y38)), (ra 13, .inl (kI, 700, .inl q_tape))] H := hPa
              have hD : va_D A [(ra 2, .inl (kI, 8, .inl q_told)), (ra 3, .inl (kI, 24, .inl (upd q_kind (12 + (q_told 4)).toNatClampNeg r17))), (ra 4, .inl (kI, 24, .inl (upd q_salt (12 + (q_told 4)).toNatClampNeg r25))), (ra 5, .inl (kI, 24, .inl (upd q_pace (12 + (q_told 4)).toNatClampNeg r36))), (ra 6, .inl (kI, 24, .inl (upd q_mute (12 + (q_told 4)).toNatClampNeg 0))), (ra 7, .inl (kI, 24, .inl (upd q_late (12 + (q_told 4)).toNatClampNeg 0))), (ra 1, .inl (kS, 4, .inr (.inr (.inr (.inr q_kinds))))), (m0, .inr (11, oX11 ra y38)), (ra 13, .inl (kI, 700, .inl q_tape))] := hDa
              clear hPa hDa
              refine lv_aload_n hx hb dX11_readRouter_141 rfl (lv_at hl 2 rfl) ?_
              refine va_get (D := (dC, dI)) (ci := 11) (v := .int (y38 8)) (C := RX11) (T := TX11) (N := 61) hx hb hts hin11 hown hK hP 7 rfl rfl 22 (Nat.le_of_ble_eq_true rfl) hw_1 (fun _ h9 => h9) rfl dX11_readRouter_142 ?_
              refine lv_if_ne (tgt := 168) hx hb dX11_readRouter_145 rfl (fun c57 => ?_) (fun c57 => ?_)
              · have b58 : iv 1 5 (y38 8) := iv_neLo c57 (hq39 8 : iv 0 5 (y38 8)) ivk_0 (by decide) (by decide)
                have hrr59 : RRd tT nN y38 (manT tT nN (rtr4 tT nN sS)) := (mq_b hrr46 c57) ▸ hrr46
                refine lv_aload_n hx hb dX11_readRouter_168 rfl (lv_at hl 2 rfl) ?_
                refine va_get (D := (dC, dI)) (ci := 11) (v := .ref (ra 2)) (C := RX11) (T := TX11) (N := 61) hx hb hts hin11 hown hK hP 7 rfl rfl 3 (Nat.le_of_ble_eq_true rfl) hw_0 (fun _ h9 => h9) rfl dX11_readRouter_169 ?_
                refine lv_iconst (v := 4) hx hb dX11_readRouter_172 ic_4 ?_
                refine lv_dup2_11 hx hb dX11_readRouter_173 rfl rfl ?_
                refine va_iald hx hb hK hP 0 1 rfl rfl (vp_in_nI (n := 4) (by decide) (by decide)) dX11_readRouter_174 ?_
                refine W.eq (g2 := F0 m 175 ls [.int (q_told 4), .int 4, .ref (ra 2)]) rfl ?_
                refine lv_iconst (v := 1) hx hb dX11_readRouter_175 ic_1 ?_
                refine lv_iadd hx hb dX11_readRouter_176 ?_
                have b60 : iv 1 12 ((q_told 4) + 1) := iv_add b2 ivk_1 (by decide) (by decide) (by decide) (by decide)
                refine va_iast hx hb hK hP hD hS 0 1 rfl rfl (vp_in_nI (n := 4) (by decide) (by decide)) dX11_readRouter_177 (fun H locs hPa hDa hS => ?_)
                clear hP hD
                have hP : va_P (dC, dI) vwCl [(ra 2, .inl (kI, 8, .inl (upd q_told 4 ((q_told 4) + 1)))), (ra 3, .inl (kI, 24, .inl (upd q_kind (12 + (q_told 4)).toNatClampNeg r17))), (ra 4, .inl (kI, 24, .inl (upd q_salt (12 + (q_told 4)).toNatClampNeg r25))), (ra 5, .inl (kI, 24, .inl (upd q_pace (12 + (q_told 4)).toNatClampNeg r36))), (ra 6, .inl (kI, 24, .inl (upd q_mute (12 + (q_told 4)).toNatClampNeg 0))), (ra 7, .inl (kI, 24, .inl (upd q_late (12 + (q_told 4)).toNatClampNeg 0))), (ra 1, .inl (kS, 4, .inr (.inr (.inr (.inr q_kinds))))), (m0, .inr (11, oX11 ra y38)), (ra 13, .inl (kI, 700, .inl q_tape))] H := hPa
                have hD : va_D A [(ra 2, .inl (kI, 8, .inl (upd q_told 4 ((q_told 4) + 1)))), (ra 3, .inl (kI, 24, .inl (upd q_kind (12 + (q_told 4)).toNatClampNeg r17))), (ra 4, .inl (kI, 24, .inl (upd q_salt (12 + (q_told 4)).toNatClampNeg r25))), (ra 5, .inl (kI, 24, .inl (upd q_pace (12 + (q_told 4)).toNatClampNeg r36))), (ra 6, .inl (kI, 24, .inl (upd q_mute (12 + (q_told 4)).toNatClampNeg 0))), (ra 7, .inl (kI, 24, .inl (upd q_late (12 + (q_told 4)).toNatClampNeg 0))), (ra 1, .inl (kS, 4, .inr (.inr (.inr (.inr q_kinds))))), (m0, .inr (11, oX11 ra y38)), (ra 13, .inl (kI, 700, .inl q_tape))] := hDa
                clear hPa hDa
                have hPD9 := cl_s (wc := [(m0, .inr (11, oX11 ra y38)), (ra 2, .inl (kI, 8, .inl (upd q_told 4 ((q_told 4) + 1)))), (ra 3, .inl (kI, 24, .inl (upd q_kind (12 + (q_told 4)).toNatClampNeg r17))), (ra 4, .inl (kI, 24, .inl (upd q_salt (12 + (q_told 4)).toNatClampNeg r25))), (ra 5, .inl (kI, 24, .inl (upd q_pace (12 + (q_told 4)).toNatClampNeg r36))), (ra 6, .inl (kI, 24, .inl (upd q_mute (12 + (q_told 4)).toNatClampNeg 0))), (ra 7, .inl (kI, 24, .inl (upd q_late (12 + (q_told 4)).toNatClampNeg 0))), (ra 13, .inl (kI, 700, .inl q_tape)), (ra 1, .inl (kS, 4, .inr (.inr (.inr (.inr q_kinds)))))]) hP hD [7, 0, 1, 2, 3, 4, 5, 8, 6] rfl (by decide +kernel)
                have hP9 := hPD9.1
                have hD9 := hPD9.2
                exact W.vret hx hb hr (fun t ht hW => ⟨⟨(), rfl, trivial, y38, upd q_told 4 ((q_told 4) + 1), upd q_kind (12 + (q_told 4)).toNatClampNeg r17, upd q_salt (12 + (q_told 4)).toNatClampNeg r25, upd q_pace (12 + (q_told 4)).toNatClampNeg r36, upd q_mute (12 + (q_told 4)).toNatClampNeg 0, upd q_late (12 + (q_told 4)).toNatClampNeg 0, hq39, (fI_u hq_told (k := 4) ((iv_w b60 (by decide) (by decide)))), (fI_u hq_salt (k := (12 + (q_told 4)).toNatClampNeg) (w26.1)), (show (x0 2).toInt ≤ (y38 2).toInt from by omega), (show y38 3 = x0 3 from hq41.trans (hq30.trans (hq10))), (show ∀ j : Nat, (j : Int) < (q_told 1).toInt → (q_from j).toInt < (q_to j).toInt from hLT), (show ∀ j : Nat, (j : Int) < (q_told 5).toInt → (q_from (20 + j)).toInt < (q_to (20 + j)).toInt from hLD), (show RRd tT nN y38 (rtrS tT nN sS (q_told 4)) from it_f (Q := RRd tT nN y38) c1 (hrr59)), fun w => absurd w c57, (show y38 1 = x0 1 from hq43.trans (hq32.trans (hq13))), (show y38 10 = x0 10 from hq44.trans (hq33.trans (hq14))), (show y38 23 = x0 23 from hq45.trans (hq34.trans (hq15))), by rw [ht]; exact hP9, hD9⟩, hS.F ht⟩) hS.2.2 dX11_readRouter_178
              · have b61 : iv 0 0 (y38 8) := iv_eqL c57 ivk_0
                refine lv_aload_n hx hb dX11_readRouter_148 rfl (lv_at hl 2 rfl) ?_
                refine va_get (D := (dC, dI)) (ci := 11) (v := .ref (ra 6)) (C := RX11) (T := TX11) (N := 61) hx hb hts hin11 hown hK hP 7 rfl rfl 7 (Nat.le_of_ble_eq_true rfl) hw_6 (fun _ h9 => h9) rfl dX11_readRouter_149 ?_
                refine lv_iload_n hx hb dX11_readRouter_152 rfl (lv_at hl 1 rfl) ?_
                refine va_iald hx hb hK hP 4 1 rfl rfl (iv_in b16 (by decide) (by decide)) dX11_readRouter_153 ?_
                refine W.eq (g2 := F0 m 154 ls [.int 0]) (by rw [upd_eq]) ?_
                refine lv_aload_n hx hb dX11_readRouter_154 rfl (lv_at hl 2 rfl) ?_
                refine va_get (D := (dC, dI)) (ci := 11) (v := .ref (ra 7)) (C := RX11) (T := TX11) (N := 61) hx hb hts hin11 hown hK hP 7 rfl rfl 8 (Nat.le_of_ble_eq_true rfl) hw_7 (fun _ h9 => h9) rfl dX11_readRouter_155 ?_
                refine lv_iload_n hx hb dX11_readRouter_158 rfl (lv_at hl 1 rfl) ?_
                refine va_iald hx hb hK hP 5 1 rfl rfl (iv_in b16 (by decide) (by decide)) dX11_readRouter_159 ?_
                refine W.eq (g2 := F0 m 160 ls [.int 0, .int 0]) (by rw [upd_eq]) ?_
                refine lv_iadd hx hb dX11_readRouter_160 ?_
                refine lv_topi (fun z62 e63 => ?_)
                obtain rfl : z62 = (0 : Int32) := e63.trans (by decide)
                refine lv_if_le (tgt := 168) hx hb dX11_readRouter_161 rfl (fun _ => ?_) (fun c9 => absurd (by decide) c9)
                have hrr64 : RRd tT nN y38 (manT tT nN (rtr4 tT nN sS)) := (mq_0 hrr46 c57 c50 c55) ▸ hrr46
                refine lv_aload_n hx hb dX11_readRouter_168 rfl (lv_at hl 2 rfl) ?_
                refine va_get (D := (dC, dI)) (ci := 11) (v := .ref (ra 2)) (C := RX11) (T := TX11) (N := 61) hx hb hts hin11 hown hK hP 7 rfl rfl 3 (Nat.le_of_ble_eq_true rfl) hw_0 (fun _ h9 => h9) rfl dX11_readRouter_169 ?_
                refine lv_iconst (v := 4) hx hb dX11_readRouter_172 ic_4 ?_
                refine lv_dup2_11 hx hb dX11_readRouter_173 rfl rfl ?_
                refine va_iald hx hb hK hP 0 1 rfl rfl (vp_in_nI (n := 4) (by decide) (by decide)) dX11_readRouter_174 ?_
                refine W.eq (g2 := F0 m 175 ls [.int (q_told 4), .int 4, .ref (ra 2)]) rfl ?_
                refine lv_iconst (v := 1) hx hb dX11_readRouter_175 ic_1 ?_
                refine lv_iadd hx hb dX11_readRouter_176 ?_
                have b65 : iv 1 12 ((q_told 4) + 1) := iv_add b2 ivk_1 (by decide) (by decide) (by decide) (by decide)
                refine va_iast hx hb hK hP hD hS 0 1 rfl rfl (vp_in_nI (n := 4) (by decide) (by decide)) dX11_readRouter_177 (fun H locs hPa hDa hS => ?_)
                clear hP hD
                have hP : va_P (dC, dI) vwCl [(ra 2, .inl (kI, 8, .inl (upd q_told 4 ((q_told 4) + 1)))), (ra 3, .inl (kI, 24, .inl (upd q_kind (12 + (q_told 4)).toNatClampNeg r17))), (ra 4, .inl (kI, 24, .inl (upd q_salt (12 + (q_told 4)).toNatClampNeg r25))), (ra 5, .inl (kI, 24, .inl (upd q_pace (12 + (q_told 4)).toNatClampNeg r36))), (ra 6, .inl (kI, 24, .inl (upd q_mute (12 + (q_told 4)).toNatClampNeg 0))), (ra 7, .inl (kI, 24, .inl (upd q_late (12 + (q_told 4)).toNatClampNeg 0))), (ra 1, .inl (kS, 4, .inr (.inr (.inr (.inr q_kinds))))), (m0, .inr (11, oX11 ra y38)), (ra 13, .inl (kI, 700, .inl q_tape))] H := hPa
                have hD : va_D A [(ra 2, .inl (kI, 8, .inl (upd q_told 4 ((q_told 4) + 1)))), (ra 3, .inl (kI, 24, .inl (upd q_kind (12 + (q_told 4)).toNatClampNeg r17))), (ra 4, .inl (kI, 24, .inl (upd q_salt (12 + (q_told 4)).toNatClampNeg r25))), (ra 5, .inl (kI, 24, .inl (upd q_pace (12 + (q_told 4)).toNatClampNeg r36))), (ra 6, .inl (kI, 24, .inl (upd q_mute (12 + (q_told 4)).toNatClampNeg 0))), (ra 7, .inl (kI, 24, .inl (upd q_late (12 + (q_told 4)).toNatClampNeg 0))), (ra 1, .inl (kS, 4, .inr (.inr (.inr (.inr q_kinds))))), (m0, .inr (11, oX11 ra y38)), (ra 13, .inl (kI, 700, .inl q_tape))] := hDa
                clear hPa hDa
                have hPD9 := cl_s (wc := [(m0, .inr (11, oX11 ra y38)), (ra 2, .inl (kI, 8, .inl (upd q_told 4 ((q_told 4) + 1)))), (ra 3, .inl (kI, 24, .inl (upd q_kind (12 + (q_told 4)).toNatClampNeg r17))), (ra 4, .inl (kI, 24, .inl (upd q_salt (12 + (q_told 4)).toNatClampNeg r25))), (ra 5, .inl (kI, 24, .inl (upd q_pace (12 + (q_told 4)).toNatClampNeg r36))), (ra 6, .inl (kI, 24, .inl (upd q_mute (12 + (q_told 4)).toNatClampNeg 0))), (ra 7, .inl (kI, 24, .inl (upd q_late (12 + (q_told 4)).toNatClampNeg 0))), (ra 13, .inl (kI, 700, .inl q_tape)), (ra 1, .inl (kS, 4, .inr (.inr (.inr (.inr q_kinds)))))]) hP hD [7, 0, 1, 2, 3, 4, 5, 8, 6] rfl (by decide +kernel)
                have hP9 := hPD9.1
                have hD9 := hPD9.2
                exact W.vret hx hb hr (fun t ht hW => ⟨⟨(), rfl, trivial, y38, upd q_told 4 ((q_told 4) + 1), upd q_kind (12 + (q_told 4)).toNatClampNeg r17, upd q_salt (12 + (q_told 4)).toNatClampNeg r25, upd q_pace (12 + (q_told 4)).toNatClampNeg r36, upd q_mute (12 + (q_told 4)).toNatClampNeg 0, upd q_late (12 + (q_told 4)).toNatClampNeg 0, hq39, (fI_u hq_told (k := 4) ((iv_w b65 (by decide) (by decide)))), (fI_u hq_salt (k := (12 + (q_told 4)).toNatClampNeg) (w26.1)), (show (x0 2).toInt ≤ (y38 2).toInt from by omega), (show y38 3 = x0 3 from hq41.trans (hq30.trans (hq10))), (show ∀ j : Nat, (j : Int) < (q_told 1).toInt → (q_from j).toInt < (q_to j).toInt from hLT), (show ∀ j : Nat, (j : Int) < (q_told 5).toInt → (q_from (20 + j)).toInt < (q_to (20 + j)).toInt from hLD), (show RRd tT nN y38 (rtrS tT nN sS (q_told 4)) from it_f (Q := RRd tT nN y38) c1 (hrr64)), fun _ => ⟨rfl, congrArg (upd q_kind ((12 + (q_told 4)).toNatClampNeg)) ((kq_y hwk c19).2 (ok_next (ok_num (ok_next (ok_num (ok_next (rr_ok hrr46 c57))))))), congrArg (upd q_salt ((12 + (q_told 4)).toNatClampNeg)) (hv2 (ok_next (ok_num (ok_next (rr_ok hrr46 c57))))), congrArg (upd q_pace ((12 + (q_told 4)).toNatClampNeg)) (hv3 (ok_next (rr_ok hrr46 c57))), congrArg (upd q_mute ((12 + (q_told 4)).toNatClampNeg)) c50.symm, congrArg (upd q_late ((12 + (q_told 4)).toNatClampNeg)) c55.symm⟩, (show y38 1 = x0 1 from hq43.trans (hq32.trans (hq13))), (show y38 10 = x0 10 from hq44.trans (hq33.trans (hq14))), (show y38 23 = x0 23 from hq45.trans (hq34.trans (hq15))), by rw [ht]; exact hP9, hD9⟩, hS.F ht⟩) hS.2.2 dX11_readRouter_178
            · have b66 : iv 1 1 (wS tT 9 (rtr4 tT nN sS)) := iv_neLo c55 b54 ivk_0 (by decide) (by decide)
              refine lv_iconst (v := 1) hx hb dX11_readRouter_135 ic_1 ?_
              refine lv_goto (tgt := 140) hx hb dX11_readRouter_136 rfl ?_
              refine va_iast hx hb hK hP hD hS 5 1 rfl rfl (iv_in b16 (by decide) (by decide)) dX11_readRouter_140 (fun H locs hPa hDa hS => ?_)
              clear hP hD
              have hP : va_P (dC, dI) vwCl [(ra 2, .inl (kI, 8, .inl q_told)), (ra 3, .inl (kI, 24, .inl (upd q_kind (12 + (q_told 4)).toNatClampNeg r17))), (ra 4, .inl (kI, 24, .inl (upd q_salt (12 + (q_told 4)).toNatClampNeg r25))), (ra 5, .inl (kI, 24, .inl (upd q_pace (12 + (q_told 4)).toNatClampNeg r36))), (ra 6, .inl (kI, 24, .inl (upd q_mute (12 + (q_told 4)).toNatClampNeg 0))), (ra 7, .inl (kI, 24, .inl (upd q_late (12 + (q_told 4)).toNatClampNeg 1))), (ra 1, .inl (kS, 4, .inr (.inr (.inr (.inr q_kinds))))), (m0, .inr (11, oX11 ra y38)), (ra 13, .inl (kI, 700, .inl q_tape))] H := hPa
              have hD : va_D A [(ra 2, .inl (kI, 8, .inl q_told)), (ra 3, .inl (kI, 24, .inl (upd q_kind (12 + (q_told 4)).toNatClampNeg r17))), (ra 4, .inl (kI, 24, .inl (upd q_salt (12 + (q_told 4)).toNatClampNeg r25))), (ra 5, .inl (kI, 24, .inl (upd q_pace (12 + (q_told 4)).toNatClampNeg r36))), (ra 6, .inl (kI, 24, .inl (upd q_mute (12 + (q_told 4)).toNatClampNeg 0))), (ra 7, .inl (kI, 24, .inl (upd q_late (12 + (q_told 4)).toNatClampNeg 1))), (ra 1, .inl (kS, 4, .inr (.inr (.inr (.inr q_kinds))))), (m0, .inr (11, oX11 ra y38)), (ra 13, .inl (kI, 700, .inl q_tape))] := hDa
              clear hPa hDa
              refine lv_aload_n hx hb dX11_readRouter_141 rfl (lv_at hl 2 rfl) ?_
              refine va_get (D := (dC, dI)) (ci := 11) (v := .int (y38 8)) (C := RX11) (T := TX11) (N := 61) hx hb hts hin11 hown hK hP 7 rfl rfl 22 (Nat.le_of_ble_eq_true rfl) hw_1 (fun _ h9 => h9) rfl dX11_readRouter_142 ?_
              refine lv_if_ne (tgt := 168) hx hb dX11_readRouter_145 rfl (fun c67 => ?_) (fun c67 => ?_)
              · have b68 : iv 1 5 (y38 8) := iv_neLo c67 (hq39 8 : iv 0 5 (y38 8)) ivk_0 (by decide) (by decide)
                have hrr69 : RRd tT nN y38 (manT tT nN (rtr4 tT nN sS)) := (mq_b hrr46 c67) ▸ hrr46
                refine lv_aload_n hx hb dX11_readRouter_168 rfl (lv_at hl 2 rfl) ?_
                refine va_get (D := (dC, dI)) (ci := 11) (v := .ref (ra 2)) (C := RX11) (T := TX11) (N := 61) hx hb hts hin11 hown hK hP 7 rfl rfl 3 (Nat.le_of_ble_eq_true rfl) hw_0 (fun _ h9 => h9) rfl dX11_readRouter_169 ?_
                refine lv_iconst (v := 4) hx hb dX11_readRouter_172 ic_4 ?_
                refine lv_dup2_11 hx hb dX11_readRouter_173 rfl rfl ?_
                refine va_iald hx hb hK hP 0 1 rfl rfl (vp_in_nI (n := 4) (by decide) (by decide)) dX11_readRouter_174 ?_
                refine W.eq (g2 := F0 m 175 ls [.int (q_told 4), .int 4, .ref (ra 2)]) rfl ?_
                refine lv_iconst (v := 1) hx hb dX11_readRouter_175 ic_1 ?_
                refine lv_iadd hx hb dX11_readRouter_176 ?_
                have b70 : iv 1 12 ((q_told 4) + 1) := iv_add b2 ivk_1 (by decide) (by decide) (by decide) (by decide)
                refine va_iast hx hb hK hP hD hS 0 1 rfl rfl (vp_in_nI (n := 4) (by decide) (by decide)) dX11_readRouter_177 (fun H locs hPa hDa hS => ?_)
                clear hP hD
                have hP : va_P (dC, dI) vwCl [(ra 2, .inl (kI, 8, .inl (upd q_told 4 ((q_told 4) + 1)))), (ra 3, .inl (kI, 24, .inl (upd q_kind (12 + (q_told 4)).toNatClampNeg r17))), (ra 4, .inl (kI, 24, .inl (upd q_salt (12 + (q_told 4)).toNatClampNeg r25))), (ra 5, .inl (kI, 24, .inl (upd q_pace (12 + (q_told 4)).toNatClampNeg r36))), (ra 6, .inl (kI, 24, .inl (upd q_mute (12 + (q_told 4)).toNatClampNeg 0))), (ra 7, .inl (kI, 24, .inl (upd q_late (12 + (q_told 4)).toNatClampNeg 1))), (ra 1, .inl (kS, 4, .inr (.inr (.inr (.inr q_kinds))))), (m0, .inr (11, oX11 ra y38)), (ra 13, .inl (kI, 700, .inl q_tape))] H := hPa
                have hD : va_D A [(ra 2, .inl (kI, 8, .inl (upd q_told 4 ((q_told 4) + 1)))), (ra 3, .inl (kI, 24, .inl (upd q_kind (12 + (q_told 4)).toNatClampNeg r17))), (ra 4, .inl (kI, 24, .inl (upd q_salt (12 + (q_told 4)).toNatClampNeg r25))), (ra 5, .inl (kI, 24, .inl (upd q_pace (12 + (q_told 4)).toNatClampNeg r36))), (ra 6, .inl (kI, 24, .inl (upd q_mute (12 + (q_told 4)).toNatClampNeg 0))), (ra 7, .inl (kI, 24, .inl (upd q_late (12 + (q_told 4)).toNatClampNeg 1))), (ra 1, .inl (kS, 4, .inr (.inr (.inr (.inr q_kinds))))), (m0, .inr (11, oX11 ra y38)), (ra 13, .inl (kI, 700, .inl q_tape))] := hDa
                clear hPa hDa
                have hPD9 := cl_s (wc := [(m0, .inr (11, oX11 ra y38)), (ra 2, .inl (kI, 8, .inl (upd q_told 4 ((q_told 4) + 1)))), (ra 3, .inl (kI, 24, .inl (upd q_kind (12 + (q_told 4)).toNatClampNeg r17))), (ra 4, .inl (kI, 24, .inl (upd q_salt (12 + (q_told 4)).toNatClampNeg r25))), (ra 5, .inl (kI, 24, .inl (upd q_pace (12 + (q_told 4)).toNatClampNeg r36))), (ra 6, .inl (kI, 24, .inl (upd q_mute (12 + (q_told 4)).toNatClampNeg 0))), (ra 7, .inl (kI, 24, .inl (upd q_late (12 + (q_told 4)).toNatClampNeg 1))), (ra 13, .inl (kI, 700, .inl q_tape)), (ra 1, .inl (kS, 4, .inr (.inr (.inr (.inr q_kinds)))))]) hP hD [7, 0, 1, 2, 3, 4, 5, 8, 6] rfl (by decide +kernel)
                have hP9 := hPD9.1
                have hD9 := hPD9.2
                exact W.vret hx hb hr (fun t ht hW => ⟨⟨(), rfl, trivial, y38, upd q_told 4 ((q_told 4) + 1), upd q_kind (12 + (q_told 4)).toNatClampNeg r17, upd q_salt (12 + (q_told 4)).toNatClampNeg r25, upd q_pace (12 + (q_told 4)).toNatClampNeg r36, upd q_mute (12 + (q_told 4)).toNatClampNeg 0, upd q_late (12 + (q_told 4)).toNatClampNeg 1, hq39, (fI_u hq_told (k := 4) ((iv_w b70 (by decide) (by decide)))), (fI_u hq_salt (k := (12 + (q_told 4)).toNatClampNeg) (w26.1)), (show (x0 2).toInt ≤ (y38 2).toInt from by omega), (show y38 3 = x0 3 from hq41.trans (hq30.trans (hq10))), (show ∀ j : Nat, (j : Int) < (q_told 1).toInt → (q_from j).toInt < (q_to j).toInt from hLT), (show ∀ j : Nat, (j : Int) < (q_told 5).toInt → (q_from (20 + j)).toInt < (q_to (20 + j)).toInt from hLD), (show RRd tT nN y38 (rtrS tT nN sS (q_told 4)) from it_f (Q := RRd tT nN y38) c1 (hrr69)), fun w => absurd w c67, (show y38 1 = x0 1 from hq43.trans (hq32.trans (hq13))), (show y38 10 = x0 10 from hq44.trans (hq33.trans (hq14))), (show y38 23 = x0 23 from hq45.trans (hq34.trans (hq15))), by rw [ht]; exact hP9, hD9⟩, hS.F ht⟩) hS.2.2 dX11_readRouter_178
              · have b71 : iv 0 0 (y38 8) := iv_eqL c67 ivk_0
                refine lv_aload_n hx hb dX11_readRouter_148 rfl (lv_at hl 2 rfl) ?_
                refine va_get (D := (dC, dI)) (ci := 11) (v := .ref (ra 6)) (C := RX11) (T := TX11) (N := 61) hx hb hts hin11 hown hK hP 7 rfl rfl 7 (Nat.le_of_ble_eq_true rfl) hw_6 (fun _ h9 => h9) rfl dX11_readRouter_149 ?_
                refine lv_iload_n hx hb dX11_readRouter_152 rfl (lv_at hl 1 rfl) ?_
                refine va_iald hx hb hK hP 4 1 rfl rfl (iv_in b16 (by decide) (by decide)) dX11_readRouter_153 ?_
                refine W.eq (g2 := F0 m 154 ls [.int 0]) (by rw [upd_eq]) ?_
                refine lv_aload_n hx hb dX11_readRouter_154 rfl (lv_at hl 2 rfl) ?_
                refine va_get (D := (dC, dI)) (ci := 11) (v := .ref (ra 7)) (C := RX11) (T := TX11) (N := 61) hx hb hts hin11 hown hK hP 7 rfl rfl 8 (Nat.le_of_ble_eq_true rfl) hw_7 (fun _ h9 => h9) rfl dX11_readRouter_155 ?_
                refine lv_iload_n hx hb dX11_readRouter_158 rfl (lv_at hl 1 rfl) ?_
                refine va_iald hx hb hK hP 5 1 rfl rfl (iv_in b16 (by decide) (by decide)) dX11_readRouter_159 ?_
                refine W.eq (g2 := F0 m 160 ls [.int 1, .int 0]) (by rw [upd_eq]) ?_
                refine lv_iadd hx hb dX11_readRouter_160 ?_
                refine lv_topi (fun z72 e73 => ?_)
                obtain rfl : z72 = (1 : Int32) := e73.trans (by decide)
                refine lv_if_le (tgt := 168) hx hb dX11_readRouter_161 rfl (fun c9 => absurd c9 (by decide)) (fun _ => ?_)
                refine lv_aload_n hx hb dX11_readRouter_164 rfl (lv_at hl 2 rfl) ?_
                obtain ⟨hPc, hDc, hFc, hJn⟩ := cl_a (wc := [(m0, .inr (11, oX11 ra y38)), (ra 13, .inl (kI, 700, .inl q_tape))]) (wr := [(ra 2, .inl (kI, 8, .inl q_told)), (ra 3, .inl (kI, 24, .inl (upd q_kind (12 + (q_told 4)).toNatClampNeg r17))), (ra 4, .inl (kI, 24, .inl (upd q_salt (12 + (q_told 4)).toNatClampNeg r25))), (ra 5, .inl (kI, 24, .inl (upd q_pace (12 + (q_told 4)).toNatClampNeg r36))), (ra 6, .inl (kI, 24, .inl (upd q_mute (12 + (q_told 4)).toNatClampNeg 0))), (ra 7, .inl (kI, 24, .inl (upd q_late (12 + (q_told 4)).toNatClampNeg 1))), (ra 1, .inl (kS, 4, .inr (.inr (.inr (.inr q_kinds)))))]) hP hD hS hA [7, 8] [0, 1, 2, 3, 4, 5, 6] rfl rfl (by decide +kernel)
                refine va_callv (va_runV (As := []) (rest := []) ⟨hx, hb, hml, hown, hts⟩ (s11_stepOn l dC dI kB kI kJ kZ kC kS H.size m0 ra y38 q_tape tT nN (nextT tT nN (rtr4 tT nN sS)) (hq39) (hq_tape) (hrr46.2) (stp_of hrr46) (hTQ)) (cwV 0 hts gX11_readRouter_X11_stepOn rfl rfl rfl (by decide +kernel) ⟨Nat.le_of_ble_eq_true rfl, Nat.le_of_ble_eq_true rfl⟩) ⟨fun a U g mk q => by obtain ⟨q0, q1, qP, qE, qD⟩ := q; exact ⟨q0, q1, qP, kE_call qE, qD⟩, va_recv hK hP (ci := 11) (q0 := 7) rfl rfl, fun U hU hW => ⟨rfl, by rw [hU], by rw [hU]; exact hPc, kE_warm hW hE, hDc.weaken (fun _ _ _ _ => trivial)⟩⟩ rfl rfl hl.1 rfl (lv_room (Nat.le_of_ble_eq_true rfl)) dX11_readRouter_165 ⟨Nat.le_of_ble_eq_true rfl, Nat.le_of_ble_eq_true rfl⟩) hS (fun q _ h => hFc q h) hFc (fun u t H locs ht hvm w75 hB hz1 hk1 hS => ?_)
                obtain ⟨y76, hq77, hq78, hq79, hq80, hq81, hq82, hq83, hq84, hP1, hD1⟩ := hB
                try dsimp only at w75
                obtain ⟨hPa, hDa⟩ := hJn (w1 := [(m0, .inr (11, oX11 ra y76)), (ra 13, .inl (kI, 700, .inl q_tape))]) hk1 ht hP1 hD1
                clear hP hD hPc hDc hFc hJn hP1 hD1 hk1
                have hP : va_P (dC, dI) vwCl [(ra 2, .inl (kI, 8, .inl q_told)), (ra 3, .inl (kI, 24, .inl (upd q_kind (12 + (q_told 4)).toNatClampNeg r17))), (ra 4, .inl (kI, 24, .inl (upd q_salt (12 + (q_told 4)).toNatClampNeg r25))), (ra 5, .inl (kI, 24, .inl (upd q_pace (12 + (q_told 4)).toNatClampNeg r36))), (ra 6, .inl (kI, 24, .inl (upd q_mute (12 + (q_told 4)).toNatClampNeg 0))), (ra 7, .inl (kI, 24, .inl (upd q_late (12 + (q_told 4)).toNatClampNeg 1))), (ra 1, .inl (kS, 4, .inr (.inr (.inr (.inr q_kinds))))), (m0, .inr (11, oX11 ra y76)), (ra 13, .inl (kI, 700, .inl q_tape))] H := hPa
                have hD : va_D A [(ra 2, .inl (kI, 8, .inl q_told)), (ra 3, .inl (kI, 24, .inl (upd q_kind (12 + (q_told 4)).toNatClampNeg r17))), (ra 4, .inl (kI, 24, .inl (upd q_salt (12 + (q_told 4)).toNatClampNeg r25))), (ra 5, .inl (kI, 24, .inl (upd q_pace (12 + (q_told 4)).toNatClampNeg r36))), (ra 6, .inl (kI, 24, .inl (upd q_mute (12 + (q_told 4)).toNatClampNeg 0))), (ra 7, .inl (kI, 24, .inl (upd q_late (12 + (q_told 4)).toNatClampNeg 1))), (ra 1, .inl (kS, 4, .inr (.inr (.inr (.inr q_kinds))))), (m0, .inr (11, oX11 ra y76)), (ra 13, .inl (kI, 700, .inl q_tape))] := hDa
                clear hPa hDa
                refine W.widen (k := 0) (n := 0) (Nat.le_of_ble_eq_true rfl) (Nat.le_of_ble_eq_true rfl) ?_
                have hrr85 : RRd tT nN y76 (manT tT nN (rtr4 tT nN sS)) := (mq_s hrr46 c67 (Or.inr c55)) ▸ hq81
                refine lv_aload_n hx hb dX11_readRouter_168 rfl (lv_at hl 2 rfl) ?_
                refine va_get (D := (dC, dI)) (ci := 11) (v := .ref (ra 2)) (C := RX11) (T := TX11) (N := 61) hx hb hts hin11 hown hK hP 7 rfl rfl 3 (Nat.le_of_ble_eq_true rfl) hw_0 (fun _ h9 => h9) rfl dX11_readRouter_169 ?_
                refine lv_iconst (v := 4) hx hb dX11_readRouter_172 ic_4 ?_
                refine lv_dup2_11 hx hb dX11_readRouter_173 rfl rfl ?_
                refine va_iald hx hb hK hP 0 1 rfl rfl (vp_in_nI (n := 4) (by decide) (by decide)) dX11_readRouter_174 ?_
                refine W.eq (g2 := F0 m 175 ls [.int (q_told 4), .int 4, .ref (ra 2)]) rfl ?_
                refine lv_iconst (v := 1) hx hb dX11_readRouter_175 ic_1 ?_
                refine lv_iadd hx hb dX11_readRouter_176 ?_
                have b86 : iv 1 12 ((q_told 4) + 1) := iv_add b2 ivk_1 (by decide) (by decide) (by decide) (by decide)
                refine va_iast hx hb hK hP hD hS 0 1 rfl rfl (vp_in_nI (n := 4) (by decide) (by decide)) dX11_readRouter_177 (fun H locs hPa hDa hS => ?_)
                clear hP hD
                have hP : va_P (dC, dI) vwCl [(ra 2, .inl (kI, 8, .inl (upd q_told 4 ((q_told 4) + 1)))), (ra 3, .inl (kI, 24, .inl (upd q_kind (12 + (q_told 4)).toNatClampNeg r17))), (ra 4, .inl (kI, 24, .inl (upd q_salt (12 + (q_told 4)).toNatClampNeg r25))), (ra 5, .inl (kI, 24, .inl (upd q_pace (12 + (q_told 4)).toNatClampNeg r36))), (ra 6, .inl (kI, 24, .inl (upd q_mute (12 + (q_told 4)).toNatClampNeg 0))), (ra 7, .inl (kI, 24, .inl (upd q_late (12 + (q_told 4)).toNatClampNeg 1))), (ra 1, .inl (kS, 4, .inr (.inr (.inr (.inr q_kinds))))), (m0, .inr (11, oX11 ra y76)), (ra 13, .inl (kI, 700, .inl q_tape))] H := hPa
                have hD : va_D A [(ra 2, .inl (kI, 8, .inl (upd q_told 4 ((q_told 4) + 1)))), (ra 3, .inl (kI, 24, .inl (upd q_kind (12 + (q_told 4)).toNatClampNeg r17))), (ra 4, .inl (kI, 24, .inl (upd q_salt (12 + (q_told 4)).toNatClampNeg r25))), (ra 5, .inl (kI, 24, .inl (upd q_pace (12 + (q_told 4)).toNatClampNeg r36))), (ra 6, .inl (kI, 24, .inl (upd q_mute (12 + (q_told 4)).toNatClampNeg 0))), (ra 7, .inl (kI, 24, .inl (upd q_late (12 + (q_told 4)).toNatClampNeg 1))), (ra 1, .inl (kS, 4, .inr (.inr (.inr (.inr q_kinds))))), (m0, .inr (11, oX11 ra y76)), (ra 13, .inl (kI, 700, .inl q_tape))] := hDa
                clear hPa hDa
                have hPD9 := cl_s (wc := [(m0, .inr (11, oX11 ra y76)), (ra 2, .inl (kI, 8, .inl (upd q_told 4 ((q_told 4) + 1)))), (ra 3, .inl (kI, 24, .inl (upd q_kind (12 + (q_told 4)).toNatClampNeg r17))), (ra 4, .inl (kI, 24, .inl (upd q_salt (12 + (q_told 4)).toNatClampNeg r25))), (ra 5, .inl (kI, 24, .inl (upd q_pace (12 + (q_told 4)).toNatClampNeg r36))), (ra 6, .inl (kI, 24, .inl (upd q_mute (12 + (q_told 4)).toNatClampNeg 0))), (ra 7, .inl (kI, 24, .inl (upd q_late (12 + (q_told 4)).toNatClampNeg 1))), (ra 13, .inl (kI, 700, .inl q_tape)), (ra 1, .inl (kS, 4, .inr (.inr (.inr (.inr q_kinds)))))]) hP hD [7, 0, 1, 2, 3, 4, 5, 8, 6] rfl (by decide +kernel)
                have hP9 := hPD9.1
                have hD9 := hPD9.2
                exact W.vret hx hb hr (fun t ht hW => ⟨⟨(), rfl, trivial, y76, upd q_told 4 ((q_told 4) + 1), upd q_kind (12 + (q_told 4)).toNatClampNeg r17, upd q_salt (12 + (q_told 4)).toNatClampNeg r25, upd q_pace (12 + (q_told 4)).toNatClampNeg r36, upd q_mute (12 + (q_told 4)).toNatClampNeg 0, upd q_late (12 + (q_told 4)).toNatClampNeg 1, hq77, (fI_u hq_told (k := 4) ((iv_w b86 (by decide) (by decide)))), (fI_u hq_salt (k := (12 + (q_told 4)).toNatClampNeg) (w26.1)), (show (x0 2).toInt ≤ (y76 2).toInt from by omega), (show y76 3 = x0 3 from hq79.trans (hq41.trans (hq30.trans (hq10)))), (show ∀ j : Nat, (j : Int) < (q_told 1).toInt → (q_from j).toInt < (q_to j).toInt from hLT), (show ∀ j : Nat, (j : Int) < (q_told 5).toInt → (q_from (20 + j)).toInt < (q_to (20 + j)).toInt from hLD), (show RRd tT nN y76 (rtrS tT nN sS (q_told 4)) from it_f (Q := RRd tT nN y76) c1 (hrr85)), fun _ => ⟨rfl, congrArg (upd q_kind ((12 + (q_told 4)).toNatClampNeg)) ((kq_y hwk c19).2 (ok_next (ok_num (ok_next (ok_num (ok_next (rr_ok hrr46 c67))))))), congrArg (upd q_salt ((12 + (q_told 4)).toNatClampNeg)) (hv2 (ok_next (ok_num (ok_next (rr_ok hrr46 c67))))), congrArg (upd q_pace ((12 + (q_told 4)).toNatClampNeg)) (hv3 (ok_next (rr_ok hrr46 c67))), congrArg (upd q_mute ((12 + (q_told 4)).toNatClampNeg)) c50.symm, congrArg (upd q_late ((12 + (q_told 4)).toNatClampNeg)) (wS_1 c55)⟩, (show y76 1 = x0 1 from hq82.trans (hq43.trans (hq32.trans (hq13)))), (show y76 10 = x0 10 from hq83.trans (hq44.trans (hq33.trans (hq14)))), (show y76 23 = x0 23 from hq84.trans (hq45.trans (hq34.trans (hq15)))), by rw [ht]; exact hP9, hD9⟩, hS.F ht⟩) hS.2.2 dX11_readRouter_178
          · have b87 : iv 1 1 (wS tT 8 (rtr4 tT nN sS)) := iv_neLo c50 b49 ivk_0 (by decide) (by decide)
            refine lv_iconst (v := 1) hx hb dX11_readRouter_115 ic_1 ?_
            refine lv_goto (tgt := 120) hx hb dX11_readRouter_116 rfl ?_
            refine va_iast hx hb hK hP hD hS 4 1 rfl rfl (iv_in b16 (by decide) (by decide)) dX11_readRouter_120 (fun H locs hPa hDa hS => ?_)
            clear hP hD
            have hP : va_P (dC, dI) vwCl [(ra 2, .inl (kI, 8, .inl q_told)), (ra 3, .inl (kI, 24, .inl (upd q_kind (12 + (q_told 4)).toNatClampNeg r17))), (ra 4, .inl (kI, 24, .inl (upd q_salt (12 + (q_told 4)).toNatClampNeg r25))), (ra 5, .inl (kI, 24, .inl (upd q_pace (12 + (q_told 4)).toNatClampNeg r36))), (ra 6, .inl (kI, 24, .inl (upd q_mute (12 + (q_told 4)).toNatClampNeg 1))), (ra 7, .inl (kI, 24, .inl q_late)), (ra 1, .inl (kS, 4, .inr (.inr (.inr (.inr q_kinds))))), (m0, .inr (11, oX11 ra y38)), (ra 13, .inl (kI, 700, .inl q_tape))] H := hPa
            have hD : va_D A [(ra 2, .inl (kI, 8, .inl q_told)), (ra 3, .inl (kI, 24, .inl (upd q_kind (12 + (q_told 4)).toNatClampNeg r17))), (ra 4, .inl (kI, 24, .inl (upd q_salt (12 + (q_told 4)).toNatClampNeg r25))), (ra 5, .inl (kI, 24, .inl (upd q_pace (12 + (q_told 4)).toNatClampNeg r36))), (ra 6, .inl (kI, 24, .inl (upd q_mute (12 + (q_told 4)).toNatClampNeg 1))), (ra 7, .inl (kI, 24, .inl q_late)), (ra 1, .inl (kS, 4, .inr (.inr (.inr (.inr q_kinds))))), (m0, .inr (11, oX11 ra y38)), (ra 13, .inl (kI, 700, .inl q_tape))] := hDa
            clear hPa hDa
            refine lv_aload_n hx hb dX11_readRouter_121 rfl (lv_at hl 2 rfl) ?_
            refine va_get (D := (dC, dI)) (ci := 11) (v := .ref (ra 7)) (C := RX11) (T := TX11) (N := 61) hx hb hts hin11 hown hK hP 7 rfl rfl 8 (Nat.le_of_ble_eq_true rfl) hw_7 (fun _ h9 => h9) rfl dX11_readRouter_122 ?_
            refine lv_iload_n hx hb dX11_readRouter_125 rfl (lv_at hl 1 rfl) ?_
            refine lv_aload_n hx hb dX11_readRouter_126 rfl (lv_at hl 2 rfl) ?_
            refine va_ldcS hx hb hown hKL.2.2.2.2.2.2.2.2.2.2.2.2.2.2.2.2.2.2.2.2.2.2 dX11_readRouter_127 ?_
            obtain ⟨hPc, hDc, hFc, hJn⟩ := cl_a (wc := [(m0, .inr (11, oX11 ra y38)), (ra 13, .inl (kI, 700, .inl q_tape))]) (wr := [(ra 2, .inl (kI, 8, .inl q_told)), (ra 3, .inl (kI, 24, .inl (upd q_kind (12 + (q_told 4)).toNatClampNeg r17))), (ra 4, .inl (kI, 24, .inl (upd q_salt (12 + (q_told 4)).toNatClampNeg r25))), (ra 5, .inl (kI, 24, .inl (upd q_pace (12 + (q_told 4)).toNatClampNeg r36))), (ra 6, .inl (kI, 24, .inl (upd q_mute (12 + (q_told 4)).toNatClampNeg 1))), (ra 7, .inl (kI, 24, .inl q_late)), (ra 1, .inl (kS, 4, .inr (.inr (.inr (.inr q_kinds)))))]) hP hD hS hA [7, 8] [0, 1, 2, 3, 4, 5, 6] rfl rfl (by decide +kernel)
            refine va_calli (va_runV (As := [.ref (adK 9)]) (rest := [.int (12 + (q_told 4)), .ref (ra 7)]) ⟨hx, hb, hml, hown, hts⟩ (s11_is l dC dI kB kI kJ kZ kC kS H.size adK adV m0 ra y38 q_tape 9 tT nN (rtr4 tT nN sS) (hq39) (hq_tape) ((by decide)) (hrr46) (hTQ)) (cwV 1 hts gX11_readRouter_X11_is rfl rfl rfl (by decide +kernel) ⟨Nat.le_of_ble_eq_true rfl, Nat.le_of_ble_eq_true rfl⟩) ⟨fun a U g mk q => by obtain ⟨q0, q1, qP, qE, qD, qL⟩ := q; exact ⟨q0, q1, qP, kE_call qE, qD, kL_call qL⟩, va_recv hK hP (ci := 11) (q0 := 7) rfl rfl, fun U hU hW => ⟨rfl, by rw [hU], by rw [hU]; exact hPc, kE_warm hW hE, hDc.weaken (fun _ _ _ _ => trivial), kL_at hKL hS hFc hW hU⟩⟩ rfl rfl hl.1 rfl (lv_room (Nat.le_of_ble_eq_true rfl)) dX11_readRouter_129 ⟨Nat.le_of_ble_eq_true rfl, Nat.le_of_ble_eq_true rfl⟩) hS (fun q _ h => hFc q h) hFc (fun r88 u t H locs ht hvm w89 hB hz1 hk1 hS => ?_)
            obtain ⟨hP1, hD1⟩ := hB
            try dsimp only at w89
            obtain ⟨hPa, hDa⟩ := hJn (w1 := [(m0, .inr (11, oX11 ra y38)), (ra 13, .inl (kI, 700, .inl q_tape))]) hk1 ht hP1 hD1
            clear hP hD hPc hDc hFc hJn hP1 hD1 hk1
            have hP : va_P (dC, dI) vwCl [(ra 2, .inl (kI, 8, .inl q_told)), (ra 3, .inl (kI, 24, .inl (upd q_kind (12 + (q_told 4)).toNatClampNeg r17))), (ra 4, .inl (kI, 24, .inl (upd q_salt (12 + (q_told 4)).toNatClampNeg r25))), (ra 5, .inl (kI, 24, .inl (upd q_pace (12 + (q_told 4)).toNatClampNeg r36))), (ra 6, .inl (kI, 24, .inl (upd q_mute (12 + (q_told 4)).toNatClampNeg 1))), (ra 7, .inl (kI, 24, .inl q_late)), (ra 1, .inl (kS, 4, .inr (.inr (.inr (.inr q_kinds))))), (m0, .inr (11, oX11 ra y38)), (ra 13, .inl (kI, 700, .inl q_tape))] H := hPa
            have hD : va_D A [(ra 2, .inl (kI, 8, .inl q_told)), (ra 3, .inl (kI, 24, .inl (upd q_kind (12 + (q_told 4)).toNatClampNeg r17))), (ra 4, .inl (kI, 24, .inl (upd q_salt (12 + (q_told 4)).toNatClampNeg r25))), (ra 5, .inl (kI, 24, .inl (upd q_pace (12 + (q_told 4)).toNatClampNeg r36))), (ra 6, .inl (kI, 24, .inl (upd q_mute (12 + (q_told 4)).toNatClampNeg 1))), (ra 7, .inl (kI, 24, .inl q_late)), (ra 1, .inl (kS, 4, .inr (.inr (.inr (.inr q_kinds))))), (m0, .inr (11, oX11 ra y38)), (ra 13, .inl (kI, 700, .inl q_tape))] := hDa
            clear hPa hDa
            refine W.widen (k := 0) (n := 0) (Nat.le_of_ble_eq_true rfl) (Nat.le_of_ble_eq_true rfl) ?_
            obtain ⟨w89, b90⟩ := w89
            subst w89
            refine lv_if_eq (tgt := 139) hx hb dX11_readRouter_132 rfl (fun c91 => ?_) (fun c91 => ?_)
            · have b92 : iv 0 0 (wS tT 9 (rtr4 tT nN sS)) := iv_eqL c91 ivk_0
              refine lv_iconst (v := 0) hx hb dX11_readRouter_139 ic_0 ?_
              refine va_iast hx hb hK hP hD hS 5 1 rfl rfl (iv_in b16 (by decide) (by decide)) dX11_readRouter_140 (fun H locs hPa hDa hS => ?_)
              clear hP hD
              have hP : va_P (dC, dI) vwCl [(ra 2, .inl (kI, 8, .inl q_told)), (ra 3, .inl (kI, 24, .inl (upd q_kind (12 + (q_told 4)).toNatClampNeg r17))), (ra 4, .inl (kI, 24, .inl (upd q_salt (12 + (q_told 4)).toNatClampNeg r25))), (ra 5, .inl (kI, 24, .inl (upd q_pace (12 + (q_told 4)).toNatClampNeg r36))), (ra 6, .inl (kI, 24, .inl (upd q_mute (12 + (q_told 4)).toNatClampNeg 1))), (ra 7, .inl (kI, 24, .inl (upd q_late (12 + (q_told 4)).toNatClampNeg 0))), (ra 1, .inl (kS, 4, .inr (.inr (.inr (.inr q_kinds))))), (m0, .inr (11, oX11 ra y38)), (ra 13, .inl (kI, 700, .inl q_tape))] H := hPa
              have hD : va_D A [(ra 2, .inl (kI, 8, .inl q_told)), (ra 3, .inl (kI, 24, .inl (upd q_kind (12 + (q_told 4)).toNatClampNeg r17))), (ra 4, .inl (kI, 24, .inl (upd q_salt (12 + (q_told 4)).toNatClampNeg r25))), (ra 5, .inl (kI, 24, .inl (upd q_pace (12 + (q_told 4)).toNatClampNeg r36))), (ra 6, .inl (kI, 24, .inl (upd q_mute (12 + (q_told 4)).toNatClampNeg 1))), (ra 7, .inl (kI, 24, .inl (upd q_late (12 + (q_told 4)).toNatClampNeg 0))), (ra 1, .inl (kS, 4, .inr (.inr (.inr (.inr q_kinds))))), (m0, .inr (11, oX11 ra y38)), (ra 13, .inl (kI, 700, .inl q_tape))] := hDa
              clear hPa hDa
              refine lv_aload_n hx hb dX11_readRouter_141 rfl (lv_at hl 2 rfl) ?_
              refine va_get (D := (dC, dI)) (ci := 11) (v := .int (y38 8)) (C := RX11) (T := TX11) (N := 61) hx hb hts hin11 hown hK hP 7 rfl rfl 22 (Nat.le_of_ble_eq_true rfl) hw_1 (fun _ h9 => h9) rfl dX11_readRouter_142 ?_
              refine lv_if_ne (tgt := 168) hx hb dX11_readRouter_145 rfl (fun c93 => ?_) (fun c93 => ?_)
              · have b94 : iv 1 5 (y38 8) := iv_neLo c93 (hq39 8 : iv 0 5 (y38 8)) ivk_0 (by decide) (by decide)
                have hrr95 : RRd tT nN y38 (manT tT nN (rtr4 tT nN sS)) := (mq_b hrr46 c93) ▸ hrr46
                refine lv_aload_n hx hb dX11_readRouter_168 rfl (lv_at hl 2 rfl) ?_
                refine va_get (D := (dC, dI)) (ci := 11) (v := .ref (ra 2)) (C := RX11) (T := TX11) (N := 61) hx hb hts hin11 hown hK hP 7 rfl rfl 3 (Nat.le_of_ble_eq_true rfl) hw_0 (fun _ h9 => h9) rfl dX11_readRouter_169 ?_
                refine lv_iconst (v := 4) hx hb dX11_readRouter_172 ic_4 ?_
                refine lv_dup2_11 hx hb dX11_readRouter_173 rfl rfl ?_
                refine va_iald hx hb hK hP 0 1 rfl rfl (vp_in_nI (n := 4) (by decide) (by decide)) dX11_readRouter_174 ?_
                refine W.eq (g2 := F0 m 175 ls [.int (q_told 4), .int 4, .ref (ra 2)]) rfl ?_
                refine lv_iconst (v := 1) hx hb dX11_readRouter_175 ic_1 ?_
                refine lv_iadd hx hb dX11_readRouter_176 ?_
                have b96 : iv 1 12 ((q_told 4) + 1) := iv_add b2 ivk_1 (by decide) (by decide) (by decide) (by decide)
                refine va_iast hx hb hK hP hD hS 0 1 rfl rfl (vp_in_nI (n := 4) (by decide) (by decide)) dX11_readRouter_177 (fun H locs hPa hDa hS => ?_)
                clear hP hD
                have hP : va_P (dC, dI) vwCl [(ra 2, .inl (kI, 8, .inl (upd q_told 4 ((q_told 4) + 1)))), (ra 3, .inl (kI, 24, .inl (upd q_kind (12 + (q_told 4)).toNatClampNeg r17))), (ra 4, .inl (kI, 24, .inl (upd q_salt (12 + (q_told 4)).toNatClampNeg r25))), (ra 5, .inl (kI, 24, .inl (upd q_pace (12 + (q_told 4)).toNatClampNeg r36))), (ra 6, .inl (kI, 24, .inl (upd q_mute (12 + (q_told 4)).toNatClampNeg 1))), (ra 7, .inl (kI, 24, .inl (upd q_late (12 + (q_told 4)).toNatClampNeg 0))), (ra 1, .inl (kS, 4, .inr (.inr (.inr (.inr q_kinds))))), (m0, .inr (11, oX11 ra y38)), (ra 13, .inl (kI, 700, .inl q_tape))] H := hPa
                have hD : va_D A [(ra 2, .inl (kI, 8, .inl (upd q_told 4 ((q_told 4) + 1)))), (ra 3, .inl (kI, 24, .inl (upd q_kind (12 + (q_told 4)).toNatClampNeg r17))), (ra 4, .inl (kI, 24, .inl (upd q_salt (12 + (q_told 4)).toNatClampNeg r25))), (ra 5, .inl (kI, 24, .inl (upd q_pace (12 + (q_told 4)).toNatClampNeg r36))), (ra 6, .inl (kI, 24, .inl (upd q_mute (12 + (q_told 4)).toNatClampNeg 1))), (ra 7, .inl (kI, 24, .inl (upd q_late (12 + (q_told 4)).toNatClampNeg 0))), (ra 1, .inl (kS, 4, .inr (.inr (.inr (.inr q_kinds))))), (m0, .inr (11, oX11 ra y38)), (ra 13, .inl (kI, 700, .inl q_tape))] := hDa
                clear hPa hDa
                have hPD9 := cl_s (wc := [(m0, .inr (11, oX11 ra y38)), (ra 2, .inl (kI, 8, .inl (upd q_told 4 ((q_told 4) + 1)))), (ra 3, .inl (kI, 24, .inl (upd q_kind (12 + (q_told 4)).toNatClampNeg r17))), (ra 4, .inl (kI, 24, .inl (upd q_salt (12 + (q_told 4)).toNatClampNeg r25))), (ra 5, .inl (kI, 24, .inl (upd q_pace (12 + (q_told 4)).toNatClampNeg r36))), (ra 6, .inl (kI, 24, .inl (upd q_mute (12 + (q_told 4)).toNatClampNeg 1))), (ra 7, .inl (kI, 24, .inl (upd q_late (12 + (q_told 4)).toNatClampNeg 0))), (ra 13, .inl (kI, 700, .inl q_tape)), (ra 1, .inl (kS, 4, .inr (.inr (.inr (.inr q_kinds)))))]) hP hD [7, 0, 1, 2, 3, 4, 5, 8, 6] rfl (by decide +kernel)
                have hP9 := hPD9.1
                have hD9 := hPD9.2
                exact W.vret hx hb hr (fun t ht hW => ⟨⟨(), rfl, trivial, y38, upd q_told 4 ((q_told 4) + 1), upd q_kind (12 + (q_told 4)).toNatClampNeg r17, upd q_salt (12 + (q_told 4)).toNatClampNeg r25, upd q_pace (12 + (q_told 4)).toNatClampNeg r36, upd q_mute (12 + (q_told 4)).toNatClampNeg 1, upd q_late (12 + (q_told 4)).toNatClampNeg 0, hq39, (fI_u hq_told (k := 4) ((iv_w b96 (by decide) (by decide)))), (fI_u hq_salt (k := (12 + (q_told 4)).toNatClampNeg) (w26.1)), (show (x0 2).toInt ≤ (y38 2).toInt from by omega), (show y38 3 = x0 3 from hq41.trans (hq30.trans (hq10))), (show ∀ j : Nat, (j : Int) < (q_told 1).toInt → (q_from j).toInt < (q_to j).toInt from hLT), (show ∀ j : Nat, (j : Int) < (q_told 5).toInt → (q_from (20 + j)).toInt < (q_to (20 + j)).toInt from hLD), (show RRd tT nN y38 (rtrS tT nN sS (q_told 4)) from it_f (Q := RRd tT nN y38) c1 (hrr95)), fun w => absurd w c93, (show y38 1 = x0 1 from hq43.trans (hq32.trans (hq13))), (show y38 10 = x0 10 from hq44.trans (hq33.trans (hq14))), (show y38 23 = x0 23 from hq45.trans (hq34.trans (hq15))), by rw [ht]; exact hP9, hD9⟩, hS.F ht⟩) hS.2.2 dX11_readRouter_178
              · have b97 : iv 0 0 (y38 8) := iv_eqL c93 ivk_0
                refine lv_aload_n hx hb dX11_readRouter_148 rfl (lv_at hl 2 rfl) ?_
                refine va_get (D := (dC, dI)) (ci := 11) (v := .ref (ra 6)) (C := RX11) (T := TX11) (N := 61) hx hb hts hin11 hown hK hP 7 rfl rfl 7 (Nat.le_of_ble_eq_true rfl) hw_6 (fun _ h9 => h9) rfl dX11_readRouter_149 ?_
                refine lv_iload_n hx hb dX11_readRouter_152 rfl (lv_at hl 1 rfl) ?_
                refine va_iald hx hb hK hP 4 1 rfl rfl (iv_in b16 (by decide) (by decide)) dX11_readRouter_153 ?_
                refine W.eq (g2 := F0 m 154 ls [.int 1]) (by rw [upd_eq]) ?_
                refine lv_aload_n hx hb dX11_readRouter_154 rfl (lv_at hl 2 rfl) ?_
                refine va_get (D := (dC, dI)) (ci := 11) (v := .ref (ra 7)) (C := RX11) (T := TX11) (N := 61) hx hb hts hin11 hown hK hP 7 rfl rfl 8 (Nat.le_of_ble_eq_true rfl) hw_7 (fun _ h9 => h9) rfl dX11_readRouter_155 ?_
                refine lv_iload_n hx hb dX11_readRouter_158 rfl (lv_at hl 1 rfl) ?_
                refine va_iald hx hb hK hP 5 1 rfl rfl (iv_in b16 (by decide) (by decide)) dX11_readRouter_159 ?_
                refine W.eq (g2 := F0 m 160 ls [.int 0, .int 1]) (by rw [upd_eq]) ?_
                refine lv_iadd hx hb dX11_readRouter_160 ?_
                refine lv_topi (fun z98 e99 => ?_)
                obtain rfl : z98 = (1 : Int32) := e99.trans (by decide)
                refine lv_if_le (tgt := 168) hx hb dX11_readRouter_161 rfl (fun c9 => absurd c9 (by decide)) (fun _ => ?_)
                refine lv_aload_n hx hb dX11_readRouter_164 rfl (lv_at hl 2 rfl) ?_
                obtain ⟨hPc, hDc, hFc, hJn⟩ := cl_a (wc := [(m0, .inr (11, oX11 ra y38)), (ra 13, .inl (kI, 700, .inl q_tape))]) (wr := [(ra 2, .inl (kI, 8, .inl q_told)), (ra 3, .inl (kI, 24, .inl (upd q_kind (12 + (q_told 4)).toNatClampNeg r17))), (ra 4, .inl (kI, 24, .inl (upd q_salt (12 + (q_told 4)).toNatClampNeg r25))), (ra 5, .inl (kI, 24, .inl (upd q_pace (12 + (q_told 4)).toNatClampNeg r36))), (ra 6, .inl (kI, 24, .inl (upd q_mute (12 + (q_told 4)).toNatClampNeg 1))), (ra 7, .inl (kI, 24, .inl (upd q_late (12 + (q_told 4)).toNatClampNeg 0))), (ra 1, .inl (kS, 4, .inr (.inr (.inr (.inr q_kinds)))))]) hP hD hS hA [7, 8] [0, 1, 2, 3, 4, 5, 6] rfl rfl (by decide +kernel)
                refine va_callv (va_runV (As := []) (rest := []) ⟨hx, hb, hml, hown, hts⟩ (s11_stepOn l dC dI kB kI kJ kZ kC kS H.size m0 ra y38 q_tape tT nN (nextT tT nN (rtr4 tT nN sS)) (hq39) (hq_tape) (hrr46.2) (stp_of hrr46) (hTQ)) (cwV 0 hts gX11_readRouter_X11_stepOn rfl rfl rfl (by decide +kernel) ⟨Nat.le_of_ble_eq_true rfl, Nat.le_of_ble_eq_true rfl⟩) ⟨fun a U g mk q => by obtain ⟨q0, q1, qP, qE, qD⟩ := q; exact ⟨q0, q1, qP, kE_call qE, qD⟩, va_recv hK hP (ci := 11) (q0 := 7) rfl rfl, fun U hU hW => ⟨rfl, by rw [hU], by rw [hU]; exact hPc, kE_warm hW hE, hDc.weaken (fun _ _ _ _ => trivial)⟩⟩ rfl rfl hl.1 rfl (lv_room (Nat.le_of_ble_eq_true rfl)) dX11_readRouter_165 ⟨Nat.le_of_ble_eq_true rfl, Nat.le_of_ble_eq_true rfl⟩) hS (fun q _ h => hFc q h) hFc (fun u t H locs ht hvm w101 hB hz1 hk1 hS => ?_)
                obtain ⟨y102, hq103, hq104, hq105, hq106, hq107, hq108, hq109, hq110, hP1, hD1⟩ := hB
                try dsimp only at w101
                obtain ⟨hPa, hDa⟩ := hJn (w1 := [(m0, .inr (11, oX11 ra y102)), (ra 13, .inl (kI, 700, .inl q_tape))]) hk1 ht hP1 hD1
                clear hP hD hPc hDc hFc hJn hP1 hD1 hk1
                have hP : va_P (dC, dI) vwCl [(ra 2, .inl (kI, 8, .inl q_told)), (ra 3, .inl (kI, 24, .inl (upd q_kind (12 + (q_told 4)).toNatClampNeg r17))), (ra 4, .inl (kI, 24, .inl (upd q_salt (12 + (q_told 4)).toNatClampNeg r25))), (ra 5, .inl (kI, 24, .inl (upd q_pace (12 + (q_told 4)).toNatClampNeg r36))), (ra 6, .inl (kI, 24, .inl (upd q_mute (12 + (q_told 4)).toNatClampNeg 1))), (ra 7, .inl (kI, 24, .inl (upd q_late (12 + (q_told 4)).toNatClampNeg 0))), (ra 1, .inl (kS, 4, .inr (.inr (.inr (.inr q_kinds))))), (m0, .inr (11, oX11 ra y102)), (ra 13, .inl (kI, 700, .inl q_tape))] H := hPa
                have hD : va_D A [(ra 2, .inl (kI, 8, .inl q_told)), (ra 3, .inl (kI, 24, .inl (upd q_kind (12 + (q_told 4)).toNatClampNeg r17))), (ra 4, .inl (kI, 24, .inl (upd q_salt (12 + (q_told 4)).toNatClampNeg r25))), (ra 5, .inl (kI, 24, .inl (upd q_pace (12 + (q_told 4)).toNatClampNeg r36))), (ra 6, .inl (kI, 24, .inl (upd q_mute (12 + (q_told 4)).toNatClampNeg 1))), (ra 7, .inl (kI, 24, .inl (upd q_late (12 + (q_told 4)).toNatClampNeg 0))), (ra 1, .inl (kS, 4, .inr (.inr (.inr (.inr q_kinds))))), (m0, .inr (11, oX11 ra y102)), (ra 13, .inl (kI, 700, .inl q_tape))] := hDa
                clear hPa hDa
                refine W.widen (k := 0) (n := 0) (Nat.le_of_ble_eq_true rfl) (Nat.le_of_ble_eq_true rfl) ?_
                have hrr111 : RRd tT nN y102 (manT tT nN (rtr4 tT nN sS)) := (mq_s hrr46 c93 (Or.inl c50)) ▸ hq107
                refine lv_aload_n hx hb dX11_readRouter_168 rfl (lv_at hl 2 rfl) ?_
                refine va_get (D := (dC, dI)) (ci := 11) (v := .ref (ra 2)) (C := RX11) (T := TX11) (N := 61) hx hb hts hin11 hown hK hP 7 rfl rfl 3 (Nat.le_of_ble_eq_true rfl) hw_0 (fun _ h9 => h9) rfl dX11_readRouter_169 ?_
                refine lv_iconst (v := 4) hx hb dX11_readRouter_172 ic_4 ?_
                refine lv_dup2_11 hx hb dX11_readRouter_173 rfl rfl ?_
                refine va_iald hx hb hK hP 0 1 rfl rfl (vp_in_nI (n := 4) (by decide) (by decide)) dX11_readRouter_174 ?_
                refine W.eq (g2 := F0 m 175 ls [.int (q_told 4), .int 4, .ref (ra 2)]) rfl ?_
                refine lv_iconst (v := 1) hx hb dX11_readRouter_175 ic_1 ?_
                refine lv_iadd hx hb dX11_readRouter_176 ?_
                have b112 : iv 1 12 ((q_told 4) + 1) := iv_add b2 ivk_1 (by decide) (by decide) (by decide) (by decide)
                refine va_iast hx hb hK hP hD hS 0 1 rfl rfl (vp_in_nI (n := 4) (by decide) (by decide)) dX11_readRouter_177 (fun H locs hPa hDa hS => ?_)
                clear hP hD
                have hP : va_P (dC, dI) vwCl [(ra 2, .inl (kI, 8, .inl (upd q_told 4 ((q_told 4) + 1)))), (ra 3, .inl (kI, 24, .inl (upd q_kind (12 + (q_told 4)).toNatClampNeg r17))), (ra 4, .inl (kI, 24, .inl (upd q_salt (12 + (q_told 4)).toNatClampNeg r25))), (ra 5, .inl (kI, 24, .inl (upd q_pace (12 + (q_told 4)).toNatClampNeg r36))), (ra 6, .inl (kI, 24, .inl (upd q_mute (12 + (q_told 4)).toNatClampNeg 1))), (ra 7, .inl (kI, 24, .inl (upd q_late (12 + (q_told 4)).toNatClampNeg 0))), (ra 1, .inl (kS, 4, .inr (.inr (.inr (.inr q_kinds))))), (m0, .inr (11, oX11 ra y102)), (ra 13, .inl (kI, 700, .inl q_tape))] H := hPa
                have hD : va_D A [(ra 2, .inl (kI, 8, .inl (upd q_told 4 ((q_told 4) + 1)))), (ra 3, .inl (kI, 24, .inl (upd q_kind (12 + (q_told 4)).toNatClampNeg r17))), (ra 4, .inl (kI, 24, .inl (upd q_salt (12 + (q_told 4)).toNatClampNeg r25))), (ra 5, .inl (kI, 24, .inl (upd q_pace (12 + (q_told 4)).toNatClampNeg r36))), (ra 6, .inl (kI, 24, .inl (upd q_mute (12 + (q_told 4)).toNatClampNeg 1))), (ra 7, .inl (kI, 24, .inl (upd q_late (12 + (q_told 4)).toNatClampNeg 0))), (ra 1, .inl (kS, 4, .inr (.inr (.inr (.inr q_kinds))))), (m0, .inr (11, oX11 ra y102)), (ra 13, .inl (kI, 700, .inl q_tape))] := hDa
                clear hPa hDa
                have hPD9 := cl_s (wc := [(m0, .inr (11, oX11 ra y102)), (ra 2, .inl (kI, 8, .inl (upd q_told 4 ((q_told 4) + 1)))), (ra 3, .inl (kI, 24, .inl (upd q_kind (12 + (q_told 4)).toNatClampNeg r17))), (ra 4, .inl (kI, 24, .inl (upd q_salt (12 + (q_told 4)).toNatClampNeg r25))), (ra 5, .inl (kI, 24, .inl (upd q_pace (12 + (q_told 4)).toNatClampNeg r36))), (ra 6, .inl (kI, 24, .inl (upd q_mute (12 + (q_told 4)).toNatClampNeg 1))), (ra 7, .inl (kI, 24, .inl (upd q_late (12 + (q_told 4)).toNatClampNeg 0))), (ra 13, .inl (kI, 700, .inl q_tape)), (ra 1, .inl (kS, 4, .inr (.inr (.inr (.inr q_kinds)))))]) hP hD [7, 0, 1, 2, 3, 4, 5, 8, 6] rfl (by decide +kernel)
                have hP9 := hPD9.1
                have hD9 := hPD9.2
                exact W.vret hx hb hr (fun t ht hW => ⟨⟨(), rfl, trivial, y102, upd q_told 4 ((q_told 4) + 1), upd q_kind (12 + (q_told 4)).toNatClampNeg r17, upd q_salt (12 + (q_told 4)).toNatClampNeg r25, upd q_pace (12 + (q_told 4)).toNatClampNeg r36, upd q_mute (12 + (q_told 4)).toNatClampNeg 1, upd q_late (12 + (q_told 4)).toNatClampNeg 0, hq103, (fI_u hq_told (k := 4) ((iv_w b112 (by decide) (by decide)))), (fI_u hq_salt (k := (12 + (q_told 4)).toNatClampNeg) (w26.1)), (show (x0 2).toInt ≤ (y102 2).toInt from by omega), (show y102 3 = x0 3 from hq105.trans (hq41.trans (hq30.trans (hq10)))), (show ∀ j : Nat, (j : Int) < (q_told 1).toInt → (q_from j).toInt < (q_to j).toInt from hLT), (show ∀ j : Nat, (j : Int) < (q_told 5).toInt → (q_from (20 + j)).toInt < (q_to (20 + j)).toInt from hLD), (show RRd tT nN y102 (rtrS tT nN sS (q_told 4)) from it_f (Q := RRd tT nN y102) c1 (hrr111)), fun _ => ⟨rfl, congrArg (upd q_kind ((12 + (q_told 4)).toNatClampNeg)) ((kq_y hwk c19).2 (ok_next (ok_num (ok_next (ok_num (ok_next (rr_ok hrr46 c93))))))), congrArg (upd q_salt ((12 + (q_told 4)).toNatClampNeg)) (hv2 (ok_next (ok_num (ok_next (rr_ok hrr46 c93))))), congrArg (upd q_pace ((12 + (q_told 4)).toNatClampNeg)) (hv3 (ok_next (rr_ok hrr46 c93))), congrArg (upd q_mute ((12 + (q_told 4)).toNatClampNeg)) (wS_1 c50), congrArg (upd q_late ((12 + (q_told 4)).toNatClampNeg)) c91.symm⟩, (show y102 1 = x0 1 from hq108.trans (hq43.trans (hq32.trans (hq13)))), (show y102 10 = x0 10 from hq109.trans (hq44.trans (hq33.trans (hq14)))), (show y102 23 = x0 23 from hq110.trans (hq45.trans (hq34.trans (hq15)))), by rw [ht]; exact hP9, hD9⟩, hS.F ht⟩) hS.2.2 dX11_readRouter_178
            · have b113 : iv 1 1 (wS tT 9 (rtr4 tT nN sS)) := iv_neLo c91 b90 ivk_0 (by decide) (by decide)
              refine lv_iconst (v := 1) hx hb dX11_readRouter_135 ic_1 ?_
              refine lv_goto (tgt := 140) hx hb dX11_readRouter_136 rfl ?_
              refine va_iast hx hb hK hP hD hS 5 1 rfl rfl (iv_in b16 (by decide) (by decide)) dX11_readRouter_140 (fun H locs hPa hDa hS => ?_)
              clear hP hD
              have hP : va_P (dC, dI) vwCl [(ra 2, .inl (kI, 8, .inl q_told)), (ra 3, .inl (kI, 24, .inl (upd q_kind (12 + (q_told 4)).toNatClampNeg r17))), (ra 4, .inl (kI, 24, .inl (upd q_salt (12 + (q_told 4)).toNatClampNeg r25))), (ra 5, .inl (kI, 24, .inl (upd q_pace (12 + (q_told 4)).toNatClampNeg r36))), (ra 6, .inl (kI, 24, .inl (upd q_mute (12 + (q_told 4)).toNatClampNeg 1))), (ra 7, .inl (kI, 24, .inl (upd q_late (12 + (q_told 4)).toNatClampNeg 1))), (ra 1, .inl (kS, 4, .inr (.inr (.inr (.inr q_kinds))))), (m0, .inr (11, oX11 ra y38)), (ra 13, .inl (kI, 700, .inl q_tape))] H := hPa
              have hD : va_D A [(ra 2, .inl (kI, 8, .inl q_told)), (ra 3, .inl (kI, 24, .inl (upd q_kind (12 + (q_told 4)).toNatClampNeg r17))), (ra 4, .inl (kI, 24, .inl (upd q_salt (12 + (q_told 4)).toNatClampNeg r25))), (ra 5, .inl (kI, 24, .inl (upd q_pace (12 + (q_told 4)).toNatClampNeg r36))), (ra 6, .inl (kI, 24, .inl (upd q_mute (12 + (q_told 4)).toNatClampNeg 1))), (ra 7, .inl (kI, 24, .inl (upd q_late (12 + (q_told 4)).toNatClampNeg 1))), (ra 1, .inl (kS, 4, .inr (.inr (.inr (.inr q_kinds))))), (m0, .inr (11, oX11 ra y38)), (ra 13, .inl (kI, 700, .inl q_tape))] := hDa
              clear hPa hDa
              refine lv_aload_n hx hb dX11_readRouter_141 rfl (lv_at hl 2 rfl) ?_
              refine va_get (D := (dC, dI)) (ci := 11) (v := .int (y38 8)) (C := RX11) (T := TX11) (N := 61) hx hb hts hin11 hown hK hP 7 rfl rfl 22 (Nat.le_of_ble_eq_true rfl) hw_1 (fun _ h9 => h9) rfl dX11_readRouter_142 ?_
              refine lv_if_ne (tgt := 168) hx hb dX11_readRouter_145 rfl (fun c114 => ?_) (fun c114 => ?_)
              · have b115 : iv 1 5 (y38 8) := iv_neLo c114 (hq39 8 : iv 0 5 (y38 8)) ivk_0 (by decide) (by decide)
                have hrr116 : RRd tT nN y38 (manT tT nN (rtr4 tT nN sS)) := (mq_b hrr46 c114) ▸ hrr46
                refine lv_aload_n hx hb dX11_readRouter_168 rfl (lv_at hl 2 rfl) ?_
                refine va_get (D := (dC, dI)) (ci := 11) (v := .ref (ra 2)) (C := RX11) (T := TX11) (N := 61) hx hb hts hin11 hown hK hP 7 rfl rfl 3 (Nat.le_of_ble_eq_true rfl) hw_0 (fun _ h9 => h9) rfl dX11_readRouter_169 ?_
                refine lv_iconst (v := 4) hx hb dX11_readRouter_172 ic_4 ?_
                refine lv_dup2_11 hx hb dX11_readRouter_173 rfl rfl ?_
                refine va_iald hx hb hK hP 0 1 rfl rfl (vp_in_nI (n := 4) (by decide) (by decide)) dX11_readRouter_174 ?_
                refine W.eq (g2 := F0 m 175 ls [.int (q_told 4), .int 4, .ref (ra 2)]) rfl ?_
                refine lv_iconst (v := 1) hx hb dX11_readRouter_175 ic_1 ?_
                refine lv_iadd hx hb dX11_readRouter_176 ?_
                have b117 : iv 1 12 ((q_told 4) + 1) := iv_add b2 ivk_1 (by decide) (by decide) (by decide) (by decide)
                refine va_iast hx hb hK hP hD hS 0 1 rfl rfl (vp_in_nI (n := 4) (by decide) (by decide)) dX11_readRouter_177 (fun H locs hPa hDa hS => ?_)
                clear hP hD
                have hP : va_P (dC, dI) vwCl [(ra 2, .inl (kI, 8, .inl (upd q_told 4 ((q_told 4) + 1)))), (ra 3, .inl (kI, 24, .inl (upd q_kind (12 + (q_told 4)).toNatClampNeg r17))), (ra 4, .inl (kI, 24, .inl (upd q_salt (12 + (q_told 4)).toNatClampNeg r25))), (ra 5, .inl (kI, 24, .inl (upd q_pace (12 + (q_told 4)).toNatClampNeg r36))), (ra 6, .inl (kI, 24, .inl (upd q_mute (12 + (q_told 4)).toNatClampNeg 1))), (ra 7, .inl (kI, 24, .inl (upd q_late (12 + (q_told 4)).toNatClampNeg 1))), (ra 1, .inl (kS, 4, .inr (.inr (.inr (.inr q_kinds))))), (m0, .inr (11, oX11 ra y38)), (ra 13, .inl (kI, 700, .inl q_tape))] H := hPa
                have hD : va_D A [(ra 2, .inl (kI, 8, .inl (upd q_told 4 ((q_told 4) + 1)))), (ra 3, .inl (kI, 24, .inl (upd q_kind (12 + (q_told 4)).toNatClampNeg r17))), (ra 4, .inl (kI, 24, .inl (upd q_salt (12 + (q_told 4)).toNatClampNeg r25))), (ra 5, .inl (kI, 24, .inl (upd q_pace (12 + (q_told 4)).toNatClampNeg r36))), (ra 6, .inl (kI, 24, .inl (upd q_mute (12 + (q_told 4)).toNatClampNeg 1))), (ra 7, .inl (kI, 24, .inl (upd q_late (12 + (q_told 4)).toNatClampNeg 1))), (ra 1, .inl (kS, 4, .inr (.inr (.inr (.inr q_kinds))))), (m0, .inr (11, oX11 ra y38)), (ra 13, .inl (kI, 700, .inl q_tape))] := hDa
                clear hPa hDa
                have hPD9 := cl_s (wc := [(m0, .inr (11, oX11 ra y38)), (ra 2, .inl (kI, 8, .inl (upd q_told 4 ((q_told 4) + 1)))), (ra 3, .inl (kI, 24, .inl (upd q_kind (12 + (q_told 4)).toNatClampNeg r17))), (ra 4, .inl (kI, 24, .inl (upd q_salt (12 + (q_told 4)).toNatClampNeg r25))), (ra 5, .inl (kI, 24, .inl (upd q_pace (12 + (q_told 4)).toNatClampNeg r36))), (ra 6, .inl (kI, 24, .inl (upd q_mute (12 + (q_told 4)).toNatClampNeg 1))), (ra 7, .inl (kI, 24, .inl (upd q_late (12 + (q_told 4)).toNatClampNeg 1))), (ra 13, .inl (kI, 700, .inl q_tape)), (ra 1, .inl (kS, 4, .inr (.inr (.inr (.inr q_kinds)))))]) hP hD [7, 0, 1, 2, 3, 4, 5, 8, 6] rfl (by decide +kernel)
                have hP9 := hPD9.1
                have hD9 := hPD9.2
                exact W.vret hx hb hr (fun t ht hW => ⟨⟨(), rfl, trivial, y38, upd q_told 4 ((q_told 4) + 1), upd q_kind (12 + (q_told 4)).toNatClampNeg r17, upd q_salt (12 + (q_told 4)).toNatClampNeg r25, upd q_pace (12 + (q_told 4)).toNatClampNeg r36, upd q_mute (12 + (q_told 4)).toNatClampNeg 1, upd q_late (12 + (q_told 4)).toNatClampNeg 1, hq39, (fI_u hq_told (k := 4) ((iv_w b117 (by decide) (by decide)))), (fI_u hq_salt (k := (12 + (q_told 4)).toNatClampNeg) (w26.1)), (show (x0 2).toInt ≤ (y38 2).toInt from by omega), (show y38 3 = x0 3 from hq41.trans (hq30.trans (hq10))), (show ∀ j : Nat, (j : Int) < (q_told 1).toInt → (q_from j).toInt < (q_to j).toInt from hLT), (show ∀ j : Nat, (j : Int) < (q_told 5).toInt → (q_from (20 + j)).toInt < (q_to (20 + j)).toInt from hLD), (show RRd tT nN y38 (rtrS tT nN sS (q_told 4)) from it_f (Q := RRd tT nN y38) c1 (hrr116)), fun w => absurd w c114, (show y38 1 = x0 1 from hq43.trans (hq32.trans (hq13))), (show y38 10 = x0 10 from hq44.trans (hq33.trans (hq14))), (show y38 23 = x0 23 from hq45.trans (hq34.trans (hq15))), by rw [ht]; exact hP9, hD9⟩, hS.F ht⟩) hS.2.2 dX11_readRouter_178
              · have b118 : iv 0 0 (y38 8) := iv_eqL c114 ivk_0
                refine lv_aload_n hx hb dX11_readRouter_148 rfl (lv_at hl 2 rfl) ?_
                refine va_get (D := (dC, dI)) (ci := 11) (v := .ref (ra 6)) (C := RX11) (T := TX11) (N := 61) hx hb hts hin11 hown hK hP 7 rfl rfl 7 (Nat.le_of_ble_eq_true rfl) hw_6 (fun _ h9 => h9) rfl dX11_readRouter_149 ?_
                refine lv_iload_n hx hb dX11_readRouter_152 rfl (lv_at hl 1 rfl) ?_
                refine va_iald hx hb hK hP 4 1 rfl rfl (iv_in b16 (by decide) (by decide)) dX11_readRouter_153 ?_
                refine W.eq (g2 := F0 m 154 ls [.int 1]) (by rw [upd_eq]) ?_
                refine lv_aload_n hx hb dX11_readRouter_154 rfl (lv_at hl 2 rfl) ?_
                refine va_get (D := (dC, dI)) (ci := 11) (v := .ref (ra 7)) (C := RX11) (T := TX11) (N := 61) hx hb hts hin11 hown hK hP 7 rfl rfl 8 (Nat.le_of_ble_eq_true rfl) hw_7 (fun _ h9 => h9) rfl dX11_readRouter_155 ?_
                refine lv_iload_n hx hb dX11_readRouter_158 rfl (lv_at hl 1 rfl) ?_
                refine va_iald hx hb hK hP 5 1 rfl rfl (iv_in b16 (by decide) (by decide)) dX11_readRouter_159 ?_
                refine W.eq (g2 := F0 m 160 ls [.int 1, .int 1]) (by rw [upd_eq]) ?_
                refine lv_iadd hx hb dX11_readRouter_160 ?_
                refine lv_topi (fun z119 e120 => ?_)
                obtain rfl : z119 = (2 : Int32) := e120.trans (by decide)
                refine lv_if_le (tgt := 168) hx hb dX11_readRouter_161 rfl (fun c9 => absurd c9 (by decide)) (fun _ => ?_)
                refine lv_aload_n hx hb dX11_readRouter_164 rfl (lv_at hl 2 rfl) ?_
                obtain ⟨hPc, hDc, hFc, hJn⟩ := cl_a (wc := [(m0, .inr (11, oX11 ra y38)), (ra 13, .inl (kI, 700, .inl q_tape))]) (wr := [(ra 2, .inl (kI, 8, .inl q_told)), (ra 3, .inl (kI, 24, .inl (upd q_kind (12 + (q_told 4)).toNatClampNeg r17))), (ra 4, .inl (kI, 24, .inl (upd q_salt (12 + (q_told 4)).toNatClampNeg r25))), (ra 5, .inl (kI, 24, .inl (upd q_pace (12 + (q_told 4)).toNatClampNeg r36))), (ra 6, .inl (kI, 24, .inl (upd q_mute (12 + (q_told 4)).toNatClampNeg 1))), (ra 7, .inl (kI, 24, .inl (upd q_late (12 + (q_told 4)).toNatClampNeg 1))), (ra 1, .inl (kS, 4, .inr (.inr (.inr (.inr q_kinds)))))]) hP hD hS hA [7, 8] [0, 1, 2, 3, 4, 5, 6] rfl rfl (by decide +kernel)
                refine va_callv (va_runV (As := []) (rest := []) ⟨hx, hb, hml, hown, hts⟩ (s11_stepOn l dC dI kB kI kJ kZ kC kS H.size m0 ra y38 q_tape tT nN (nextT tT nN (rtr4 tT nN sS)) (hq39) (hq_tape) (hrr46.2) (stp_of hrr46) (hTQ)) (cwV 0 hts gX11_readRouter_X11_stepOn rfl rfl rfl (by decide +kernel) ⟨Nat.le_of_ble_eq_true rfl, Nat.le_of_ble_eq_true rfl⟩) ⟨fun a U g mk q => by obtain ⟨q0, q1, qP, qE, qD⟩ := q; exact ⟨q0, q1, qP, kE_call qE, qD⟩, va_recv hK hP (ci := 11) (q0 := 7) rfl rfl, fun U hU hW => ⟨rfl, by rw [hU], by rw [hU]; exact hPc, kE_warm hW hE, hDc.weaken (fun _ _ _ _ => trivial)⟩⟩ rfl rfl hl.1 rfl (lv_room (Nat.le_of_ble_eq_true rfl)) dX11_readRouter_165 ⟨Nat.le_of_ble_eq_true rfl, Nat.le_of_ble_eq_true rfl⟩) hS (fun q _ h => hFc q h) hFc (fun u t H locs ht hvm w122 hB hz1 hk1 hS => ?_)
                obtain ⟨y123, hq124, hq125, hq126, hq127, hq128, hq129, hq130, hq131, hP1, hD1⟩ := hB
                try dsimp only at w122
                obtain ⟨hPa, hDa⟩ := hJn (w1 := [(m0, .inr (11, oX11 ra y123)), (ra 13, .inl (kI, 700, .inl q_tape))]) hk1 ht hP1 hD1
                clear hP hD hPc hDc hFc hJn hP1 hD1 hk1
                have hP : va_P (dC, dI) vwCl [(ra 2, .inl (kI, 8, .inl q_told)), (ra 3, .inl (kI, 24, .inl (upd q_kind (12 + (q_told 4)).toNatClampNeg r17))), (ra 4, .inl (kI, 24, .inl (upd q_salt (12 + (q_told 4)).toNatClampNeg r25))), (ra 5, .inl (kI, 24, .inl (upd q_pace (12 + (q_told 4)).toNatClampNeg r36))), (ra 6, .inl (kI, 24, .inl (upd q_mute (12 + (q_told 4)).toNatClampNeg 1))), (ra 7, .inl (kI, 24, .inl (upd q_late (12 + (q_told 4)).toNatClampNeg 1))), (ra 1, .inl (kS, 4, .inr (.inr (.inr (.inr q_kinds))))), (m0, .inr (11, oX11 ra y123)), (ra 13, .inl (kI, 700, .inl q_tape))] H := hPa
                have hD : va_D A [(ra 2, .inl (kI, 8, .inl q_told)), (ra 3, .inl (kI, 24, .inl (upd q_kind (12 + (q_told 4)).toNatClampNeg r17))), (ra 4, .inl (kI, 24, .inl (upd q_salt (12 + (q_told 4)).toNatClampNeg r25))), (ra 5, .inl (kI, 24, .inl (upd q_pace (12 + (q_told 4)).toNatClampNeg r36))), (ra 6, .inl (kI, 24, .inl (upd q_mute (12 + (q_told 4)).toNatClampNeg 1))), (ra 7, .inl (kI, 24, .inl (upd q_late (12 + (q_told 4)).toNatClampNeg 1))), (ra 1, .inl (kS, 4, .inr (.inr (.inr (.inr q_kinds))))), (m0, .inr (11, oX11 ra y123)), (ra 13, .inl (kI, 700, .inl q_tape))] := hDa
                clear hPa hDa
                refine W.widen (k := 0) (n := 0) (Nat.le_of_ble_eq_true rfl) (Nat.le_of_ble_eq_true rfl) ?_
                have hrr132 : RRd tT nN y123 (manT tT nN (rtr4 tT nN sS)) := (mq_s hrr46 c114 (Or.inl c50)) ▸ hq128
                refine lv_aload_n hx hb dX11_readRouter_168 rfl (lv_at hl 2 rfl) ?_
                refine va_get (D := (dC, dI)) (ci := 11) (v := .ref (ra 2)) (C := RX11) (T := TX11) (N := 61) hx hb hts hin11 hown hK hP 7 rfl rfl 3 (Nat.le_of_ble_eq_true rfl) hw_0 (fun _ h9 => h9) rfl dX11_readRouter_169 ?_
                refine lv_iconst (v := 4) hx hb dX11_readRouter_172 ic_4 ?_
                refine lv_dup2_11 hx hb dX11_readRouter_173 rfl rfl ?_
                refine va_iald hx hb hK hP 0 1 rfl rfl (vp_in_nI (n := 4) (by decide) (by decide)) dX11_readRouter_174 ?_
                refine W.eq (g2 := F0 m 175 ls [.int (q_told 4), .int 4, .ref (ra 2)]) rfl ?_
                refine lv_iconst (v := 1) hx hb dX11_readRouter_175 ic_1 ?_
                refine lv_iadd hx hb dX11_readRouter_176 ?_
                have b133 : iv 1 12 ((q_told 4) + 1) := iv_add b2 ivk_1 (by decide) (by decide) (by decide) (by decide)
                refine va_iast hx hb hK hP hD hS 0 1 rfl rfl (vp_in_nI (n := 4) (by decide) (by decide)) dX11_readRouter_177 (fun H locs hPa hDa hS => ?_)
                clear hP hD
                have hP : va_P (dC, dI) vwCl [(ra 2, .inl (kI, 8, .inl (upd q_told 4 ((q_told 4) + 1)))), (ra 3, .inl (kI, 24, .inl (upd q_kind (12 + (q_told 4)).toNatClampNeg r17))), (ra 4, .inl (kI, 24, .inl (upd q_salt (12 + (q_told 4)).toNatClampNeg r25))), (ra 5, .inl (kI, 24, .inl (upd q_pace (12 + (q_told 4)).toNatClampNeg r36))), (ra 6, .inl (kI, 24, .inl (upd q_mute (12 + (q_told 4)).toNatClampNeg 1))), (ra 7, .inl (kI, 24, .inl (upd q_late (12 + (q_told 4)).toNatClampNeg 1))), (ra 1, .inl (kS, 4, .inr (.inr (.inr (.inr q_kinds))))), (m0, .inr (11, oX11 ra y123)), (ra 13, .inl (kI, 700, .inl q_tape))] H := hPa
                have hD : va_D A [(ra 2, .inl (kI, 8, .inl (upd q_told 4 ((q_told 4) + 1)))), (ra 3, .inl (kI, 24, .inl (upd q_kind (12 + (q_told 4)).toNatClampNeg r17))), (ra 4, .inl (kI, 24, .inl (upd q_salt (12 + (q_told 4)).toNatClampNeg r25))), (ra 5, .inl (kI, 24, .inl (upd q_pace (12 + (q_told 4)).toNatClampNeg r36))), (ra 6, .inl (kI, 24, .inl (upd q_mute (12 + (q_told 4)).toNatClampNeg 1))), (ra 7, .inl (kI, 24, .inl (upd q_late (12 + (q_told 4)).toNatClampNeg 1))), (ra 1, .inl (kS, 4, .inr (.inr (.inr (.inr q_kinds))))), (m0, .inr (11, oX11 ra y123)), (ra 13, .inl (kI, 700, .inl q_tape))] := hDa
                clear hPa hDa
                have hPD9 := cl_s (wc := [(m0, .inr (11, oX11 ra y123)), (ra 2, .inl (kI, 8, .inl (upd q_told 4 ((q_told 4) + 1)))), (ra 3, .inl (kI, 24, .inl (upd q_kind (12 + (q_told 4)).toNatClampNeg r17))), (ra 4, .inl (kI, 24, .inl (upd q_salt (12 + (q_told 4)).toNatClampNeg r25))), (ra 5, .inl (kI, 24, .inl (upd q_pace (12 + (q_told 4)).toNatClampNeg r36))), (ra 6, .inl (kI, 24, .inl (upd q_mute (12 + (q_told 4)).toNatClampNeg 1))), (ra 7, .inl (kI, 24, .inl (upd q_late (12 + (q_told 4)).toNatClampNeg 1))), (ra 13, .inl (kI, 700, .inl q_tape)), (ra 1, .inl (kS, 4, .inr (.inr (.inr (.inr q_kinds)))))]) hP hD [7, 0, 1, 2, 3, 4, 5, 8, 6] rfl (by decide +kernel)
                have hP9 := hPD9.1
                have hD9 := hPD9.2
                exact W.vret hx hb hr (fun t ht hW => ⟨⟨(), rfl, trivial, y123, upd q_told 4 ((q_told 4) + 1), upd q_kind (12 + (q_told 4)).toNatClampNeg r17, upd q_salt (12 + (q_told 4)).toNatClampNeg r25, upd q_pace (12 + (q_told 4)).toNatClampNeg r36, upd q_mute (12 + (q_told 4)).toNatClampNeg 1, upd q_late (12 + (q_told 4)).toNatClampNeg 1, hq124, (fI_u hq_told (k := 4) ((iv_w b133 (by decide) (by decide)))), (fI_u hq_salt (k := (12 + (q_told 4)).toNatClampNeg) (w26.1)), (show (x0 2).toInt ≤ (y123 2).toInt from by omega), (show y123 3 = x0 3 from hq126.trans (hq41.trans (hq30.trans (hq10)))), (show ∀ j : Nat, (j : Int) < (q_told 1).toInt → (q_from j).toInt < (q_to j).toInt from hLT), (show ∀ j : Nat, (j : Int) < (q_told 5).toInt → (q_from (20 + j)).toInt < (q_to (20 + j)).toInt from hLD), (show RRd tT nN y123 (rtrS tT nN sS (q_told 4)) from it_f (Q := RRd tT nN y123) c1 (hrr132)), fun _ => ⟨rfl, congrArg (upd q_kind ((12 + (q_told 4)).toNatClampNeg)) ((kq_y hwk c19).2 (ok_next (ok_num (ok_next (ok_num (ok_next (rr_ok hrr46 c114))))))), congrArg (upd q_salt ((12 + (q_told 4)).toNatClampNeg)) (hv2 (ok_next (ok_num (ok_next (rr_ok hrr46 c114))))), congrArg (upd q_pace ((12 + (q_told 4)).toNatClampNeg)) (hv3 (ok_next (rr_ok hrr46 c114))), congrArg (upd q_mute ((12 + (q_told 4)).toNatClampNeg)) (wS_1 c50), congrArg (upd q_late ((12 + (q_told 4)).toNatClampNeg)) (wS_1 c91)⟩, (show y123 1 = x0 1 from hq129.trans (hq43.trans (hq32.trans (hq13)))), (show y123 10 = x0 10 from hq130.trans (hq44.trans (hq33.trans (hq14)))), (show y123 23 = x0 23 from hq131.trans (hq45.trans (hq34.trans (hq15)))), by rw [ht]; exact hP9, hD9⟩, hS.F ht⟩) hS.2.2 dX11_readRouter_178
        · have b134 : iv 0 0 (y7 8) := iv_eqL c22 ivk_0
          refine lv_aload_n hx hb dX11_readRouter_64 rfl (lv_at hl 2 rfl) ?_
          obtain ⟨hPc, hDc, hFc, hJn⟩ := cl_a (wc := [(m0, .inr (11, oX11 ra y7)), (ra 13, .inl (kI, 700, .inl q_tape))]) (wr := [(ra 2, .inl (kI, 8, .inl q_told)), (ra 3, .inl (kI, 24, .inl q_kind)), (ra 4, .inl (kI, 24, .inl q_salt)), (ra 5, .inl (kI, 24, .inl q_pace)), (ra 6, .inl (kI, 24, .inl q_mute)), (ra 7, .inl (kI, 24, .inl q_late)), (ra 1, .inl (kS, 4, .inr (.inr (.inr (.inr q_kinds)))))]) hP hD hS hA [6, 7] [0, 1, 2, 3, 4, 5, 8] rfl rfl (by decide +kernel)
          refine va_callv (va_runV (As := []) (rest := []) ⟨hx, hb, hml, hown, hts⟩ (s11_stepOn l dC dI kB kI kJ kZ kC kS H.size m0 ra y7 q_tape tT nN (nextT tT nN (kndT tT (rtr1 tT nN sS))) (hq8) (hq_tape) (hrr21.2) (stp_of hrr21) (hTQ)) (cwV 0 hts gX11_readRouter_X11_stepOn rfl rfl rfl (by decide +kernel) ⟨Nat.le_of_ble_eq_true rfl, Nat.le_of_ble_eq_true rfl⟩) ⟨fun a U g mk q => by obtain ⟨q0, q1, qP, qE, qD⟩ := q; exact ⟨q0, q1, qP, kE_call qE, qD⟩, va_recv hK hP (ci := 11) (q0 := 6) rfl rfl, fun U hU hW => ⟨rfl, by rw [hU], by rw [hU]; exact hPc, kE_warm hW hE, hDc.weaken (fun _ _ _ _ => trivial)⟩⟩ rfl rfl hl.1 rfl (lv_room (Nat.le_of_ble_eq_true rfl)) dX11_readRouter_65 ⟨Nat.le_of_ble_eq_true rfl, Nat.le_of_ble_eq_true rfl⟩) hS (fun q _ h => hFc q h) hFc (fun u t H locs ht hvm w136 hB hz1 hk1 hS => ?_)
          obtain ⟨y137, hq138, hq139, hq140, hq141, hq142, hq143, hq144, hq145, hP1, hD1⟩ := hB
          try dsimp only at w136
          obtain ⟨hPa, hDa⟩ := hJn (w1 := [(m0, .inr (11, oX11 ra y137)), (ra 13, .inl (kI, 700, .inl q_tape))]) hk1 ht hP1 hD1
          clear hP hD hPc hDc hFc hJn hP1 hD1 hk1
          have hP : va_P (dC, dI) vwCl [(ra 2, .inl (kI, 8, .inl q_told)), (ra 3, .inl (kI, 24, .inl q_kind)), (ra 4, .inl (kI, 24, .inl q_salt)), (ra 5, .inl (kI, 24, .inl q_pace)), (ra 6, .inl (kI, 24, .inl q_mute)), (ra 7, .inl (kI, 24, .inl q_late)), (ra 1, .inl (kS, 4, .inr (.inr (.inr (.inr q_kinds))))), (m0, .inr (11, oX11 ra y137)), (ra 13, .inl (kI, 700, .inl q_tape))] H := hPa
          have hD : va_D A [(ra 2, .inl (kI, 8, .inl q_told)), (ra 3, .inl (kI, 24, .inl q_kind)), (ra 4, .inl (kI, 24, .inl q_salt)), (ra 5, .inl (kI, 24, .inl q_pace)), (ra 6, .inl (kI, 24, .inl q_mute)), (ra 7, .inl (kI, 24, .inl q_late)), (ra 1, .inl (kS, 4, .inr (.inr (.inr (.inr q_kinds))))), (m0, .inr (11, oX11 ra y137)), (ra 13, .inl (kI, 700, .inl q_tape))] := hDa
          clear hPa hDa
          refine W.widen (k := 0) (n := 0) (Nat.le_of_ble_eq_true rfl) (Nat.le_of_ble_eq_true rfl) ?_
          have hrr146 : RRd tT nN y137 (rtr2 tT nN sS) := hq142
          refine lv_aload_n hx hb dX11_readRouter_68 rfl (lv_at hl 2 rfl) ?_
          refine va_get (D := (dC, dI)) (ci := 11) (v := .ref (ra 3)) (C := RX11) (T := TX11) (N := 61) hx hb hts hin11 hown hK hP 7 rfl rfl 4 (Nat.le_of_ble_eq_true rfl) hw_3 (fun _ h9 => h9) rfl dX11_readRouter_69 ?_
          refine lv_iload_n hx hb dX11_readRouter_72 rfl (lv_at hl 1 rfl) ?_
          refine lv_iload_n hx hb dX11_readRouter_73 rfl (lv_at hl 0 rfl) ?_
          refine va_iast hx hb hK hP hD hS 1 1 rfl rfl (iv_in b16 (by decide) (by decide)) dX11_readRouter_74 (fun H locs hPa hDa hS => ?_)
          clear hP hD
          have hP : va_P (dC, dI) vwCl [(ra 2, .inl (kI, 8, .inl q_told)), (ra 3, .inl (kI, 24, .inl (upd q_kind (12 + (q_told 4)).toNatClampNeg r17))), (ra 4, .inl (kI, 24, .inl q_salt)), (ra 5, .inl (kI, 24, .inl q_pace)), (ra 6, .inl (kI, 24, .inl q_mute)), (ra 7, .inl (kI, 24, .inl q_late)), (ra 1, .inl (kS, 4, .inr (.inr (.inr (.inr q_kinds))))), (m0, .inr (11, oX11 ra y137)), (ra 13, .inl (kI, 700, .inl q_tape))] H := hPa
          have hD : va_D A [(ra 2, .inl (kI, 8, .inl q_told)), (ra 3, .inl (kI, 24, .inl (upd q_kind (12 + (q_told 4)).toNatClampNeg r17))), (ra 4, .inl (kI, 24, .inl q_salt)), (ra 5, .inl (kI, 24, .inl q_pace)), (ra 6, .inl (kI, 24, .inl q_mute)), (ra 7, .inl (kI, 24, .inl q_late)), (ra 1, .inl (kS, 4, .inr (.inr (.inr (.inr q_kinds))))), (m0, .inr (11, oX11 ra y137)), (ra 13, .inl (kI, 700, .inl q_tape))] := hDa
          clear hPa hDa
          refine lv_aload_n hx hb dX11_readRouter_75 rfl (lv_at hl 2 rfl) ?_
          refine va_get (D := (dC, dI)) (ci := 11) (v := .ref (ra 4)) (C := RX11) (T := TX11) (N := 61) hx hb hts hin11 hown hK hP 7 rfl rfl 5 (Nat.le_of_ble_eq_true rfl) hw_4 (fun _ h9 => h9) rfl dX11_readRouter_76 ?_
          refine lv_iload_n hx hb dX11_readRouter_79 rfl (lv_at hl 1 rfl) ?_
          refine lv_aload_n hx hb dX11_readRouter_80 rfl (lv_at hl 2 rfl) ?_
          refine lv_iconst (v := 0) hx hb dX11_readRouter_81 ic_0 ?_
          refine lv_bipush (v := 15) hx hb dX11_readRouter_82 bp_15 ?_
          obtain ⟨hPc, hDc, hFc, hJn⟩ := cl_a (wc := [(m0, .inr (11, oX11 ra y137)), (ra 13, .inl (kI, 700, .inl q_tape))]) (wr := [(ra 2, .inl (kI, 8, .inl q_told)), (ra 3, .inl (kI, 24, .inl (upd q_kind (12 + (q_told 4)).toNatClampNeg r17))), (ra 4, .inl (kI, 24, .inl q_salt)), (ra 5, .inl (kI, 24, .inl q_pace)), (ra 6, .inl (kI, 24, .inl q_mute)), (ra 7, .inl (kI, 24, .inl q_late)), (ra 1, .inl (kS, 4, .inr (.inr (.inr (.inr q_kinds)))))]) hP hD hS hA [7, 8] [0, 1, 2, 3, 4, 5, 6] rfl rfl (by decide +kernel)
          refine va_calli (va_runV (As := [.int 0, .int 15]) (rest := [.int (12 + (q_told 4)), .ref (ra 4)]) ⟨hx, hb, hml, hown, hts⟩ (s11_readNumber_0_15 l dC dI kB kI kJ kZ kC kS H.size m0 ra y137 q_tape tT nN (rtr2 tT nN sS) (hq138) (hq_tape) (hrr146) (hTQ)) (cwV 2 hts gX11_readRouter_X11_readNumber rfl rfl rfl (by decide +kernel) ⟨Nat.le_of_ble_eq_true rfl, Nat.le_of_ble_eq_true rfl⟩) ⟨fun a U g mk q => by obtain ⟨q0, q1, qP, qE, qD⟩ := q; exact ⟨q0, q1, qP, kE_call qE, qD⟩, va_recv hK hP (ci := 11) (q0 := 7) rfl rfl, fun U hU hW => ⟨rfl, by rw [hU], by rw [hU]; exact hPc, kE_warm hW hE, hDc.weaken (fun _ _ _ _ => trivial)⟩⟩ rfl rfl hl.1 rfl (lv_room (Nat.le_of_ble_eq_true rfl)) dX11_readRouter_84 ⟨Nat.le_of_ble_eq_true rfl, Nat.le_of_ble_eq_true rfl⟩) hS (fun q _ h => hFc q h) hFc (fun r147 u t H locs ht hvm w148 hB hz1 hk1 hS => ?_)
          obtain ⟨y149, hq150, hq151, hq152, hq153, hq154, hq155, hq156, hP1, hD1⟩ := hB
          try dsimp only at w148
          obtain ⟨hPa, hDa⟩ := hJn (w1 := [(m0, .inr (11, oX11 ra y149)), (ra 13, .inl (kI, 700, .inl q_tape))]) hk1 ht hP1 hD1
          clear hP hD hPc hDc hFc hJn hP1 hD1 hk1
          have hP : va_P (dC, dI) vwCl [(ra 2, .inl (kI, 8, .inl q_told)), (ra 3, .inl (kI, 24, .inl (upd q_kind (12 + (q_told 4)).toNatClampNeg r17))), (ra 4, .inl (kI, 24, .inl q_salt)), (ra 5, .inl (kI, 24, .inl q_pace)), (ra 6, .inl (kI, 24, .inl q_mute)), (ra 7, .inl (kI, 24, .inl q_late)), (ra 1, .inl (kS, 4, .inr (.inr (.inr (.inr q_kinds))))), (m0, .inr (11, oX11 ra y149)), (ra 13, .inl (kI, 700, .inl q_tape))] H := hPa
          have hD : va_D A [(ra 2, .inl (kI, 8, .inl q_told)), (ra 3, .inl (kI, 24, .inl (upd q_kind (12 + (q_told 4)).toNatClampNeg r17))), (ra 4, .inl (kI, 24, .inl q_salt)), (ra 5, .inl (kI, 24, .inl q_pace)), (ra 6, .inl (kI, 24, .inl q_mute)), (ra 7, .inl (kI, 24, .inl q_late)), (ra 1, .inl (kS, 4, .inr (.inr (.inr (.inr q_kinds))))), (m0, .inr (11, oX11 ra y149)), (ra 13, .inl (kI, 700, .inl q_tape))] := hDa
          clear hPa hDa
          refine W.widen (k := 0) (n := 0) (Nat.le_of_ble_eq_true rfl) (Nat.le_of_ble_eq_true rfl) ?_
          have hv2 := w148.2
          refine va_iast hx hb hK hP hD hS 2 1 rfl rfl (iv_in b16 (by decide) (by decide)) dX11_readRouter_87 (fun H locs hPa hDa hS => ?_)
          clear hP hD
          have hP : va_P (dC, dI) vwCl [(ra 2, .inl (kI, 8, .inl q_told)), (ra 3, .inl (kI, 24, .inl (upd q_kind (12 + (q_told 4)).toNatClampNeg r17))), (ra 4, .inl (kI, 24, .inl (upd q_salt (12 + (q_told 4)).toNatClampNeg r147))), (ra 5, .inl (kI, 24, .inl q_pace)), (ra 6, .inl (kI, 24, .inl q_mute)), (ra 7, .inl (kI, 24, .inl q_late)), (ra 1, .inl (kS, 4, .inr (.inr (.inr (.inr q_kinds))))), (m0, .inr (11, oX11 ra y149)), (ra 13, .inl (kI, 700, .inl q_tape))] H := hPa
          have hD : va_D A [(ra 2, .inl (kI, 8, .inl q_told)), (ra 3, .inl (kI, 24, .inl (upd q_kind (12 + (q_told 4)).toNatClampNeg r17))), (ra 4, .inl (kI, 24, .inl (upd q_salt (12 + (q_told 4)).toNatClampNeg r147))), (ra 5, .inl (kI, 24, .inl q_pace)), (ra 6, .inl (kI, 24, .inl q_mute)), (ra 7, .inl (kI, 24, .inl q_late)), (ra 1, .inl (kS, 4, .inr (.inr (.inr (.inr q_kinds))))), (m0, .inr (11, oX11 ra y149)), (ra 13, .inl (kI, 700, .inl q_tape))] := hDa
          clear hPa hDa
          have hrr157 : RRd tT nN y149 (rtr3 tT nN sS) := hq153
          refine lv_aload_n hx hb dX11_readRouter_88 rfl (lv_at hl 2 rfl) ?_
          refine va_get (D := (dC, dI)) (ci := 11) (v := .ref (ra 5)) (C := RX11) (T := TX11) (N := 61) hx hb hts hin11 hown hK hP 7 rfl rfl 6 (Nat.le_of_ble_eq_true rfl) hw_5 (fun _ h9 => h9) rfl dX11_readRouter_89 ?_
          refine lv_iload_n hx hb dX11_readRouter_92 rfl (lv_at hl 1 rfl) ?_
          refine lv_aload_n hx hb dX11_readRouter_93 rfl (lv_at hl 2 rfl) ?_
          refine lv_iconst (v := 1) hx hb dX11_readRouter_94 ic_1 ?_
          refine lv_bipush (v := 60) hx hb dX11_readRouter_95 bp_60 ?_
          obtain ⟨hPc, hDc, hFc, hJn⟩ := cl_a (wc := [(m0, .inr (11, oX11 ra y149)), (ra 13, .inl (kI, 700, .inl q_tape))]) (wr := [(ra 2, .inl (kI, 8, .inl q_told)), (ra 3, .inl (kI, 24, .inl (upd q_kind (12 + (q_told 4)).toNatClampNeg r17))), (ra 4, .inl (kI, 24, .inl (upd q_salt (12 + (q_told 4)).toNatClampNeg r147))), (ra 5, .inl (kI, 24, .inl q_pace)), (ra 6, .inl (kI, 24, .inl q_mute)), (ra 7, .inl (kI, 24, .inl q_late)), (ra 1, .inl (kS, 4, .inr (.inr (.inr (.inr q_kinds)))))]) hP hD hS hA [7, 8] [0, 1, 2, 3, 4, 5, 6] rfl rfl (by decide +kernel)
          refine va_calli (va_runV (As := [.int 1, .int 60]) (rest := [.int (12 + (q_told 4)), .ref (ra 5)]) ⟨hx, hb, hml, hown, hts⟩ (s11_readNumber_1_60 l dC dI kB kI kJ kZ kC kS H.size m0 ra y149 q_tape tT nN (rtr3 tT nN sS) (hq150) (hq_tape) (hrr157) (hTQ)) (cwV 2 hts gX11_readRouter_X11_readNumber rfl rfl rfl (by decide +kernel) ⟨Nat.le_of_ble_eq_true rfl, Nat.le_of_ble_eq_true rfl⟩) ⟨fun a U g mk q => by obtain ⟨q0, q1, qP, qE, qD⟩ := q; exact ⟨q0, q1, qP, kE_call qE, qD⟩, va_recv hK hP (ci := 11) (q0 := 7) rfl rfl, fun U hU hW => ⟨rfl, by rw [hU], by rw [hU]; exact hPc, kE_warm hW hE, hDc.weaken (fun _ _ _ _ => trivial)⟩⟩ rfl rfl hl.1 rfl (lv_room (Nat.le_of_ble_eq_true rfl)) dX11_readRouter_97 ⟨Nat.le_of_ble_eq_true rfl, Nat.le_of_ble_eq_true rfl⟩) hS (fun q _ h => hFc q h) hFc (fun r158 u t H locs ht hvm w159 hB hz1 hk1 hS => ?_)
          obtain ⟨y160, hq161, hq162, hq163, hq164, hq165, hq166, hq167, hP1, hD1⟩ := hB
          try dsimp only at w159
          obtain ⟨hPa, hDa⟩ := hJn (w1 := [(m0, .inr (11, oX11 ra y160)), (ra 13, .inl (kI, 700, .inl q_tape))]) hk1 ht hP1 hD1
          clear hP hD hPc hDc hFc hJn hP1 hD1 hk1
          have hP : va_P (dC, dI) vwCl [(ra 2, .inl (kI, 8, .inl q_told)), (ra 3, .inl (kI, 24, .inl (upd q_kind (12 + (q_told 4)).toNatClampNeg r17))), (ra 4, .inl (kI, 24, .inl (upd q_salt (12 + (q_told 4)).toNatClampNeg r147))), (ra 5, .inl (kI, 24, .inl q_pace)), (ra 6, .inl (kI, 24, .inl q_mute)), (ra 7, .inl (kI, 24, .inl q_late)), (ra 1, .inl (kS, 4, .inr (.inr (.inr (.inr q_kinds))))), (m0, .inr (11, oX11 ra y160)), (ra 13, .inl (kI, 700, .inl q_tape))] H := hPa
          have hD : va_D A [(ra 2, .inl (kI, 8, .inl q_told)), (ra 3, .inl (kI, 24, .inl (upd q_kind (12 + (q_told 4)).toNatClampNeg r17))), (ra 4, .inl (kI, 24, .inl (upd q_salt (12 + (q_told 4)).toNatClampNeg r147))), (ra 5, .inl (kI, 24, .inl q_pace)), (ra 6, .inl (kI, 24, .inl q_mute)), (ra 7, .inl (kI, 24, .inl q_late)), (ra 1, .inl (kS, 4, .inr (.inr (.inr (.inr q_kinds))))), (m0, .inr (11, oX11 ra y160)), (ra 13, .inl (kI, 700, .inl q_tape))] := hDa
          clear hPa hDa
          refine W.widen (k := 0) (n := 0) (Nat.le_of_ble_eq_true rfl) (Nat.le_of_ble_eq_true rfl) ?_
          have hv3 := w159.2
          refine va_iast hx hb hK hP hD hS 3 1 rfl rfl (iv_in b16 (by decide) (by decide)) dX11_readRouter_100 (fun H locs hPa hDa hS => ?_)
          clear hP hD
          have hP : va_P (dC, dI) vwCl [(ra 2, .inl (kI, 8, .inl q_told)), (ra 3, .inl (kI, 24, .inl (upd q_kind (12 + (q_told 4)).toNatClampNeg r17))), (ra 4, .inl (kI, 24, .inl (upd q_salt (12 + (q_told 4)).toNatClampNeg r147))), (ra 5, .inl (kI, 24, .inl (upd q_pace (12 + (q_told 4)).toNatClampNeg r158))), (ra 6, .inl (kI, 24, .inl q_mute)), (ra 7, .inl (kI, 24, .inl q_late)), (ra 1, .inl (kS, 4, .inr (.inr (.inr (.inr q_kinds))))), (m0, .inr (11, oX11 ra y160)), (ra 13, .inl (kI, 700, .inl q_tape))] H := hPa
          have hD : va_D A [(ra 2, .inl (kI, 8, .inl q_told)), (ra 3, .inl (kI, 24, .inl (upd q_kind (12 + (q_told 4)).toNatClampNeg r17))), (ra 4, .inl (kI, 24, .inl (upd q_salt (12 + (q_told 4)).toNatClampNeg r147))), (ra 5, .inl (kI, 24, .inl (upd q_pace (12 + (q_told 4)).toNatClampNeg r158))), (ra 6, .inl (kI, 24, .inl q_mute)), (ra 7, .inl (kI, 24, .inl q_late)), (ra 1, .inl (kS, 4, .inr (.inr (.inr (.inr q_kinds))))), (m0, .inr (11, oX11 ra y160)), (ra 13, .inl (kI, 700, .inl q_tape))] := hDa
          clear hPa hDa
          have hrr168 : RRd tT nN y160 (rtr4 tT nN sS) := hq164
          refine lv_aload_n hx hb dX11_readRouter_101 rfl (lv_at hl 2 rfl) ?_
          refine va_get (D := (dC, dI)) (ci := 11) (v := .ref (ra 6)) (C := RX11) (T := TX11) (N := 61) hx hb hts hin11 hown hK hP 7 rfl rfl 7 (Nat.le_of_ble_eq_true rfl) hw_6 (fun _ h9 => h9) rfl dX11_readRouter_102 ?_
          refine lv_iload_n hx hb dX11_readRouter_105 rfl (lv_at hl 1 rfl) ?_
          refine lv_aload_n hx hb dX11_readRouter_106 rfl (lv_at hl 2 rfl) ?_
          refine va_ldcS hx hb hown hKL.2.2.2.2.2.2.2.2.2.2.2.2.2.2.2.2.2.2.2.2.2.1 dX11_readRouter_107 ?_
          obtain ⟨hPc, hDc, hFc, hJn⟩ := cl_a (wc := [(m0, .inr (11, oX11 ra y160)), (ra 13, .inl (kI, 700, .inl q_tape))]) (wr := [(ra 2, .inl (kI, 8, .inl q_told)), (ra 3, .inl (kI, 24, .inl (upd q_kind (12 + (q_told 4)).toNatClampNeg r17))), (ra 4, .inl (kI, 24, .inl (upd q_salt (12 + (q_told 4)).toNatClampNeg r147))), (ra 5, .inl (kI, 24, .inl (upd q_pace (12 + (q_told 4)).toNatClampNeg r158))), (ra 6, .inl (kI, 24, .inl q_mute)), (ra 7, .inl (kI, 24, .inl q_late)), (ra 1, .inl (kS, 4, .inr (.inr (.inr (.inr q_kinds)))))]) hP hD hS hA [7, 8] [0, 1, 2, 3, 4, 5, 6] rfl rfl (by decide +kernel)
          refine va_calli (va_runV (As := [.ref (adK 8)]) (rest := [.int (12 + (q_told 4)), .ref (ra 6)]) ⟨hx, hb, hml, hown, hts⟩ (s11_is l dC dI kB kI kJ kZ kC kS H.size adK adV m0 ra y160 q_tape 8 tT nN (rtr4 tT nN sS) (hq161) (hq_tape) ((by decide)) (hrr168) (hTQ)) (cwV 1 hts gX11_readRouter_X11_is rfl rfl rfl (by decide +kernel) ⟨Nat.le_of_ble_eq_true rfl, Nat.le_of_ble_eq_true rfl⟩) ⟨fun a U g mk q => by obtain ⟨q0, q1, qP, qE, qD, qL⟩ := q; exact ⟨q0, q1, qP, kE_call qE, qD, kL_call qL⟩, va_recv hK hP (ci := 11) (q0 := 7) rfl rfl, fun U hU hW => ⟨rfl, by rw [hU], by rw [hU]; exact hPc, kE_warm hW hE, hDc.weaken (fun _ _ _ _ => trivial), kL_at hKL hS hFc hW hU⟩⟩ rfl rfl hl.1 rfl (lv_room (Nat.le_of_ble_eq_true rfl)) dX11_readRouter_109 ⟨Nat.le_of_ble_eq_true rfl, Nat.le_of_ble_eq_true rfl⟩) hS (fun q _ h => hFc q h) hFc (fun r169 u t H locs ht hvm w170 hB hz1 hk1 hS => ?_)
          obtain ⟨hP1, hD1⟩ := hB
          try dsimp only at w170
          obtain ⟨hPa, hDa⟩ := hJn (w1 := [(m0, .inr (11, oX11 ra y160)), (ra 13, .inl (kI, 700, .inl q_tape))]) hk1 ht hP1 hD1
          clear hP hD hPc hDc hFc hJn hP1 hD1 hk1
          have hP : va_P (dC, dI) vwCl [(ra 2, .inl (kI, 8, .inl q_told)), (ra 3, .inl (kI, 24, .inl (upd q_kind (12 + (q_told 4)).toNatClampNeg r17))), (ra 4, .inl (kI, 24, .inl (upd q_salt (12 + (q_told 4)).toNatClampNeg r147))), (ra 5, .inl (kI, 24, .inl (upd q_pace (12 + (q_told 4)).toNatClampNeg r158))), (ra 6, .inl (kI, 24, .inl q_mute)), (ra 7, .inl (kI, 24, .inl q_late)), (ra 1, .inl (kS, 4, .inr (.inr (.inr (.inr q_kinds))))), (m0, .inr (11, oX11 ra y160)), (ra 13, .inl (kI, 700, .inl q_tape))] H := hPa
          have hD : va_D A [(ra 2, .inl (kI, 8, .inl q_told)), (ra 3, .inl (kI, 24, .inl (upd q_kind (12 + (q_told 4)).toNatClampNeg r17))), (ra 4, .inl (kI, 24, .inl (upd q_salt (12 + (q_told 4)).toNatClampNeg r147))), (ra 5, .inl (kI, 24, .inl (upd q_pace (12 + (q_told 4)).toNatClampNeg r158))), (ra 6, .inl (kI, 24, .inl q_mute)), (ra 7, .inl (kI, 24, .inl q_late)), (ra 1, .inl (kS, 4, .inr (.inr (.inr (.inr q_kinds))))), (m0, .inr (11, oX11 ra y160)), (ra 13, .inl (kI, 700, .inl q_tape))] := hDa
          clear hPa hDa
          refine W.widen (k := 0) (n := 0) (Nat.le_of_ble_eq_true rfl) (Nat.le_of_ble_eq_true rfl) ?_
          obtain ⟨w170, b171⟩ := w170
          subst w170
          refine lv_if_eq (tgt := 119) hx hb dX11_readRouter_112 rfl (fun c172 => ?_) (fun c172 => ?_)
          · have b173 : iv 0 0 (wS tT 8 (rtr4 tT nN sS)) := iv_eqL c172 ivk_0
            refine lv_iconst (v := 0) hx hb dX11_readRouter_119 ic_0 ?_
            refine va_iast hx hb hK hP hD hS 4 1 rfl rfl (iv_in b16 (by decide) (by decide)) dX11_readRouter_120 (fun H locs hPa hDa hS => ?_)
            clear hP hD
            have hP : va_P (dC, dI) vwCl [(ra 2, .inl (kI, 8, .inl q_told)), (ra 3, .inl (kI, 24, .inl (upd q_kind (12 + (q_told 4)).toNatClampNeg r17))), (ra 4, .inl (kI, 24, .inl (upd q_salt (12 + (q_told 4)).toNatClampNeg r147))), (ra 5, .inl (kI, 24, .inl (upd q_pace (12 + (q_told 4)).toNatClampNeg r158))), (ra 6, .inl (kI, 24, .inl (upd q_mute (12 + (q_told 4)).toNatClampNeg 0))), (ra 7, .inl (kI, 24, .inl q_late)), (ra 1, .inl (kS, 4, .inr (.inr (.inr (.inr q_kinds))))), (m0, .inr (11, oX11 ra y160)), (ra 13, .inl (kI, 700, .inl q_tape))] H := hPa
            have hD : va_D A [(ra 2, .inl (kI, 8, .inl q_told)), (ra 3, .inl (kI, 24, .inl (upd q_kind (12 + (q_told 4)).toNatClampNeg r17))), (ra 4, .inl (kI, 24, .inl (upd q_salt (12 + (q_told 4)).toNatClampNeg r147))), (ra 5, .inl (kI, 24, .inl (upd q_pace (12 + (q_told 4)).toNatClampNeg r158))), (ra 6, .inl (kI, 24, .inl (upd q_mute (12 + (q_told 4)).toNatClampNeg 0))), (ra 7, .inl (kI, 24, .inl q_late)), (ra 1, .inl (kS, 4, .inr (.inr (.inr (.inr q_kinds))))), (m0, .inr (11, oX11 ra y160)), (ra 13, .inl (kI, 700, .inl q_tape))] := hDa
            clear hPa hDa
            refine lv_aload_n hx hb dX11_readRouter_121 rfl (lv_at hl 2 rfl) ?_
            refine va_get (D := (dC, dI)) (ci := 11) (v := .ref (ra 7)) (C := RX11) (T := TX11) (N := 61) hx hb hts hin11 hown hK hP 7 rfl rfl 8 (Nat.le_of_ble_eq_true rfl) hw_7 (fun _ h9 => h9) rfl dX11_readRouter_122 ?_
            refine lv_iload_n hx hb dX11_readRouter_125 rfl (lv_at hl 1 rfl) ?_
            refine lv_aload_n hx hb dX11_readRouter_126 rfl (lv_at hl 2 rfl) ?_
            refine va_ldcS hx hb hown hKL.2.2.2.2.2.2.2.2.2.2.2.2.2.2.2.2.2.2.2.2.2.2 dX11_readRouter_127 ?_
            obtain ⟨hPc, hDc, hFc, hJn⟩ := cl_a (wc := [(m0, .inr (11, oX11 ra y160)), (ra 13, .inl (kI, 700, .inl q_tape))]) (wr := [(ra 2, .inl (kI, 8, .inl q_told)), (ra 3, .inl (kI, 24, .inl (upd q_kind (12 + (q_told 4)).toNatClampNeg r17))), (ra 4, .inl (kI, 24, .inl (upd q_salt (12 + (q_told 4)).toNatClampNeg r147))), (ra 5, .inl (kI, 24, .inl (upd q_pace (12 + (q_told 4)).toNatClampNeg r158))), (ra 6, .inl (kI, 24, .inl (upd q_mute (12 + (q_told 4)).toNatClampNeg 0))), (ra 7, .inl (kI, 24, .inl q_late)), (ra 1, .inl (kS, 4, .inr (.inr (.inr (.inr q_kinds)))))]) hP hD hS hA [7, 8] [0, 1, 2, 3, 4, 5, 6] rfl rfl (by decide +kernel)
            refine va_calli (va_runV (As := [.ref (adK 9)]) (rest := [.int (12 + (q_told 4)), .ref (ra 7)]) ⟨hx, hb, hml, hown, hts⟩ (s11_is l dC dI kB kI kJ kZ kC kS H.size adK adV m0 ra y160 q_tape 9 tT nN (rtr4 tT nN sS) (hq161) (hq_tape) ((by decide)) (hrr168) (hTQ)) (cwV 1 hts gX11_readRouter_X11_is rfl rfl rfl (by decide +kernel) ⟨Nat.le_of_ble_eq_true rfl, Nat.le_of_ble_eq_true rfl⟩) ⟨fun a U g mk q => by obtain ⟨q0, q1, qP, qE, qD, qL⟩ := q; exact ⟨q0, q1, qP, kE_call qE, qD, kL_call qL⟩, va_recv hK hP (ci := 11) (q0 := 7) rfl rfl, fun U hU hW => ⟨rfl, by rw [hU], by rw [hU]; exact hPc, kE_warm hW hE, hDc.weaken (fun _ _ _ _ => trivial), kL_at hKL hS hFc hW hU⟩⟩ rfl rfl hl.1 rfl (lv_room (Nat.le_of_ble_eq_true rfl)) dX11_readRouter_129 ⟨Nat.le_of_ble_eq_true rfl, Nat.le_of_ble_eq_true rfl⟩) hS (fun q _ h => hFc q h) hFc (fun r174 u t H locs ht hvm w175 hB hz1 hk1 hS => ?_)
            obtain ⟨hP1, hD1⟩ := hB
            try dsimp only at w175
            obtain ⟨hPa, hDa⟩ := hJn (w1 := [(m0, .inr (11, oX11 ra y160)), (ra 13, .inl (kI, 700, .inl q_tape))]) hk1 ht hP1 hD1
            clear hP hD hPc hDc hFc hJn hP1 hD1 hk1
            have hP : va_P (dC, dI) vwCl [(ra 2, .inl (kI, 8, .inl q_told)), (ra 3, .inl (kI, 24, .inl (upd q_kind (12 + (q_told 4)).toNatClampNeg r17))), (ra 4, .inl (kI, 24, .inl (upd q_salt (12 + (q_told 4)).toNatClampNeg r147))), (ra 5, .inl (kI, 24, .inl (upd q_pace (12 + (q_told 4)).toNatClampNeg r158))), (ra 6, .inl (kI, 24, .inl (upd q_mute (12 + (q_told 4)).toNatClampNeg 0))), (ra 7, .inl (kI, 24, .inl q_late)), (ra 1, .inl (kS, 4, .inr (.inr (.inr (.inr q_kinds))))), (m0, .inr (11, oX11 ra y160)), (ra 13, .inl (kI, 700, .inl q_tape))] H := hPa
            have hD : va_D A [(ra 2, .inl (kI, 8, .inl q_told)), (ra 3, .inl (kI, 24, .inl (upd q_kind (12 + (q_told 4)).toNatClampNeg r17))), (ra 4, .inl (kI, 24, .inl (upd q_salt (12 + (q_told 4)).toNatClampNeg r147))), (ra 5, .inl (kI, 24, .inl (upd q_pace (12 + (q_told 4)).toNatClampNeg r158))), (ra 6, .inl (kI, 24, .inl (upd q_mute (12 + (q_told 4)).toNatClampNeg 0))), (ra 7, .inl (kI, 24, .inl q_late)), (ra 1, .inl (kS, 4, .inr (.inr (.inr (.inr q_kinds))))), (m0, .inr (11, oX11 ra y160)), (ra 13, .inl (kI, 700, .inl q_tape))] := hDa
            clear hPa hDa
            refine W.widen (k := 0) (n := 0) (Nat.le_of_ble_eq_true rfl) (Nat.le_of_ble_eq_true rfl) ?_
            obtain ⟨w175, b176⟩ := w175
            subst w175
            refine lv_if_eq (tgt := 139) hx hb dX11_readRouter_132 rfl (fun c177 => ?_) (fun c177 => ?_)
            · have b178 : iv 0 0 (wS tT 9 (rtr4 tT nN sS)) := iv_eqL c177 ivk_0
              refine lv_iconst (v := 0) hx hb dX11_readRouter_139 ic_0 ?_
              refine va_iast hx hb hK hP hD hS 5 1 rfl rfl (iv_in b16 (by decide) (by decide)) dX11_readRouter_140 (fun H locs hPa hDa hS => ?_)
              clear hP hD
              have hP : va_P (dC, dI) vwCl [(ra 2, .inl (kI, 8, .inl q_told)), (ra 3, .inl (kI, 24, .inl (upd q_kind (12 + (q_told 4)).toNatClampNeg r17))), (ra 4, .inl (kI, 24, .inl (upd q_salt (12 + (q_told 4)).toNatClampNeg r147))), (ra 5, .inl (kI, 24, .inl (upd q_pace (12 + (q_told 4)).toNatClampNeg r158))), (ra 6, .inl (kI, 24, .inl (upd q_mute (12 + (q_told 4)).toNatClampNeg 0))), (ra 7, .inl (kI, 24, .inl (upd q_late (12 + (q_told 4)).toNatClampNeg 0))), (ra 1, .inl (kS, 4, .inr (.inr (.inr (.inr q_kinds))))), (m0, .inr (11, oX11 ra y160)), (ra 13, .inl (kI, 700, .inl q_tape))] H := hPa
              have hD : va_D A [(ra 2, .inl (kI, 8, .inl q_told)), (ra 3, .inl (kI, 24, .inl (upd q_kind (12 + (q_told 4)).toNatClampNeg r17))), (ra 4, .inl (kI, 24, .inl (upd q_salt (12 + (q_told 4)).toNatClampNeg r147))), (ra 5, .inl (kI, 24, .inl (upd q_pace (12 + (q_told 4)).toNatClampNeg r158))), (ra 6, .inl (kI, 24, .inl (upd q_mute (12 + (q_told 4)).toNatClampNeg 0))), (ra 7, .inl (kI, 24, .inl (upd q_late (12 + (q_told 4)).toNatClampNeg 0))), (ra 1, .inl (kS, 4, .inr (.inr (.inr (.inr q_kinds))))), (m0, .inr (11, oX11 ra y160)), (ra 13, .inl (kI, 700, .inl q_tape))] := hDa
              clear hPa hDa
              refine lv_aload_n hx hb dX11_readRouter_141 rfl (lv_at hl 2 rfl) ?_
              refine va_get (D := (dC, dI)) (ci := 11) (v := .int (y160 8)) (C := RX11) (T := TX11) (N := 61) hx hb hts hin11 hown hK hP 7 rfl rfl 22 (Nat.le_of_ble_eq_true rfl) hw_1 (fun _ h9 => h9) rfl dX11_readRouter_142 ?_
              refine lv_if_ne (tgt := 168) hx hb dX11_readRouter_145 rfl (fun c179 => ?_) (fun c179 => ?_)
              · have b180 : iv 1 5 (y160 8) := iv_neLo c179 (hq161 8 : iv 0 5 (y160 8)) ivk_0 (by decide) (by decide)
                have hrr181 : RRd tT nN y160 (manT tT nN (rtr4 tT nN sS)) := (mq_b hrr168 c179) ▸ hrr168
                refine lv_aload_n hx hb dX11_readRouter_168 rfl (lv_at hl 2 rfl) ?_
                refine va_get (D := (dC, dI)) (ci := 11) (v := .ref (ra 2)) (C := RX11) (T := TX11) (N := 61) hx hb hts hin11 hown hK hP 7 rfl rfl 3 (Nat.le_of_ble_eq_true rfl) hw_0 (fun _ h9 => h9) rfl dX11_readRouter_169 ?_
                refine lv_iconst (v := 4) hx hb dX11_readRouter_172 ic_4 ?_
                refine lv_dup2_11 hx hb dX11_readRouter_173 rfl rfl ?_
                refine va_iald hx hb hK hP 0 1 rfl rfl (vp_in_nI (n := 4) (by decide) (by decide)) dX11_readRouter_174 ?_
                refine W.eq (g2 := F0 m 175 ls [.int (q_told 4), .int 4, .ref (ra 2)]) rfl ?_
                refine lv_iconst (v := 1) hx hb dX11_readRouter_175 ic_1 ?_
                refine lv_iadd hx hb dX11_readRouter_176 ?_
                have b182 : iv 1 12 ((q_told 4) + 1) := iv_add b2 ivk_1 (by decide) (by decide) (by decide) (by decide)
                refine va_iast hx hb hK hP hD hS 0 1 rfl rfl (vp_in_nI (n := 4) (by decide) (by decide)) dX11_readRouter_177 (fun H locs hPa hDa hS => ?_)
                clear hP hD
                have hP : va_P (dC, dI) vwCl [(ra 2, .inl (kI, 8, .inl (upd q_told 4 ((q_told 4) + 1)))), (ra 3, .inl (kI, 24, .inl (upd q_kind (12 + (q_told 4)).toNatClampNeg r17))), (ra 4, .inl (kI, 24, .inl (upd q_salt (12 + (q_told 4)).toNatClampNeg r147))), (ra 5, .inl (kI, 24, .inl (upd q_pace (12 + (q_told 4)).toNatClampNeg r158))), (ra 6, .inl (kI, 24, .inl (upd q_mute (12 + (q_told 4)).toNatClampNeg 0))), (ra 7, .inl (kI, 24, .inl (upd q_late (12 + (q_told 4)).toNatClampNeg 0))), (ra 1, .inl (kS, 4, .inr (.inr (.inr (.inr q_kinds))))), (m0, .inr (11, oX11 ra y160)), (ra 13, .inl (kI, 700, .inl q_tape))] H := hPa
                have hD : va_D A [(ra 2, .inl (kI, 8, .inl (upd q_told 4 ((q_told 4) + 1)))), (ra 3, .inl (kI, 24, .inl (upd q_kind (12 + (q_told 4)).toNatClampNeg r17))), (ra 4, .inl (kI, 24, .inl (upd q_salt (12 + (q_told 4)).toNatClampNeg r147))), (ra 5, .inl (kI, 24, .inl (upd q_pace (12 + (q_told 4)).toNatClampNeg r158))), (ra 6, .inl (kI, 24, .inl (upd q_mute (12 + (q_told 4)).toNatClampNeg 0))), (ra 7, .inl (kI, 24, .inl (upd q_late (12 + (q_told 4)).toNatClampNeg 0))), (ra 1, .inl (kS, 4, .inr (.inr (.inr (.inr q_kinds))))), (m0, .inr (11, oX11 ra y160)), (ra 13, .inl (kI, 700, .inl q_tape))] := hDa
                clear hPa hDa
                have hPD9 := cl_s (wc := [(m0, .inr (11, oX11 ra y160)), (ra 2, .inl (kI, 8, .inl (upd q_told 4 ((q_told 4) + 1)))), (ra 3, .inl (kI, 24, .inl (upd q_kind (12 + (q_told 4)).toNatClampNeg r17))), (ra 4, .inl (kI, 24, .inl (upd q_salt (12 + (q_told 4)).toNatClampNeg r147))), (ra 5, .inl (kI, 24, .inl (upd q_pace (12 + (q_told 4)).toNatClampNeg r158))), (ra 6, .inl (kI, 24, .inl (upd q_mute (12 + (q_told 4)).toNatClampNeg 0))), (ra 7, .inl (kI, 24, .inl (upd q_late (12 + (q_told 4)).toNatClampNeg 0))), (ra 13, .inl (kI, 700, .inl q_tape)), (ra 1, .inl (kS, 4, .inr (.inr (.inr (.inr q_kinds)))))]) hP hD [7, 0, 1, 2, 3, 4, 5, 8, 6] rfl (by decide +kernel)
                have hP9 := hPD9.1
                have hD9 := hPD9.2
                exact W.vret hx hb hr (fun t ht hW => ⟨⟨(), rfl, trivial, y160, upd q_told 4 ((q_told 4) + 1), upd q_kind (12 + (q_told 4)).toNatClampNeg r17, upd q_salt (12 + (q_told 4)).toNatClampNeg r147, upd q_pace (12 + (q_told 4)).toNatClampNeg r158, upd q_mute (12 + (q_told 4)).toNatClampNeg 0, upd q_late (12 + (q_told 4)).toNatClampNeg 0, hq161, (fI_u hq_told (k := 4) ((iv_w b182 (by decide) (by decide)))), (fI_u hq_salt (k := (12 + (q_told 4)).toNatClampNeg) (w148.1)), (show (x0 2).toInt ≤ (y160 2).toInt from by omega), (show y160 3 = x0 3 from hq163.trans (hq152.trans (hq140.trans (hq10)))), (show ∀ j : Nat, (j : Int) < (q_told 1).toInt → (q_from j).toInt < (q_to j).toInt from hLT), (show ∀ j : Nat, (j : Int) < (q_told 5).toInt → (q_from (20 + j)).toInt < (q_to (20 + j)).toInt from hLD), (show RRd tT nN y160 (rtrS tT nN sS (q_told 4)) from it_f (Q := RRd tT nN y160) c1 (hrr181)), fun w => absurd w c179, (show y160 1 = x0 1 from hq165.trans (hq154.trans (hq143.trans (hq13)))), (show y160 10 = x0 10 from hq166.trans (hq155.trans (hq144.trans (hq14)))), (show y160 23 = x0 23 from hq167.trans (hq156.trans (hq145.trans (hq15)))), by rw [ht]; exact hP9, hD9⟩, hS.F ht⟩) hS.2.2 dX11_readRouter_178
              · have b183 : iv 0 0 (y160 8) := iv_eqL c179 ivk_0
                refine lv_aload_n hx hb dX11_readRouter_148 rfl (lv_at hl 2 rfl) ?_
                refine va_get (D := (dC, dI)) (ci := 11) (v := .ref (ra 6)) (C := RX11) (T := TX11) (N := 61) hx hb hts hin11 hown hK hP 7 rfl rfl 7 (Nat.le_of_ble_eq_true rfl) hw_6 (fun _ h9 => h9) rfl dX11_readRouter_149 ?_
                refine lv_iload_n hx hb dX11_readRouter_152 rfl (lv_at hl 1 rfl) ?_
                refine va_iald hx hb hK hP 4 1 rfl rfl (iv_in b16 (by decide) (by decide)) dX11_readRouter_153 ?_
                refine W.eq (g2 := F0 m 154 ls [.int 0]) (by rw [upd_eq]) ?_
                refine lv_aload_n hx hb dX11_readRouter_154 rfl (lv_at hl 2 rfl) ?_
                refine va_get (D := (dC, dI)) (ci := 11) (v := .ref (ra 7)) (C := RX11) (T := TX11) (N := 61) hx hb hts hin11 hown hK hP 7 rfl rfl 8 (Nat.le_of_ble_eq_true rfl) hw_7 (fun _ h9 => h9) rfl dX11_readRouter_155 ?_
                refine lv_iload_n hx hb dX11_readRouter_158 rfl (lv_at hl 1 rfl) ?_
                refine va_iald hx hb hK hP 5 1 rfl rfl (iv_in b16 (by decide) (by decide)) dX11_readRouter_159 ?_
                refine W.eq (g2 := F0 m 160 ls [.int 0, .int 0]) (by rw [upd_eq]) ?_
                refine lv_iadd hx hb dX11_readRouter_160 ?_
                refine lv_topi (fun z184 e185 => ?_)
                obtain rfl : z184 = (0 : Int32) := e185.trans (by decide)
                refine lv_if_le (tgt := 168) hx hb dX11_readRouter_161 rfl (fun _ => ?_) (fun c9 => absurd (by decide) c9)
                have hrr186 : RRd tT nN y160 (manT tT nN (rtr4 tT nN sS)) := (mq_0 hrr168 c179 c172 c177) ▸ hrr168
                refine lv_aload_n hx hb dX11_readRouter_168 rfl (lv_at hl 2 rfl) ?_
                refine va_get (D := (dC, dI)) (ci := 11) (v := .ref (ra 2)) (C := RX11) (T := TX11) (N := 61) hx hb hts hin11 hown hK hP 7 rfl rfl 3 (Nat.le_of_ble_eq_true rfl) hw_0 (fun _ h9 => h9) rfl dX11_readRouter_169 ?_
                refine lv_iconst (v := 4) hx hb dX11_readRouter_172 ic_4 ?_
                refine lv_dup2_11 hx hb dX11_readRouter_173 rfl rfl ?_
                refine va_iald hx hb hK hP 0 1 rfl rfl (vp_in_nI (n := 4) (by decide) (by decide)) dX11_readRouter_174 ?_
                refine W.eq (g2 := F0 m 175 ls [.int (q_told 4), .int 4, .ref (ra 2)]) rfl ?_
                refine lv_iconst (v := 1) hx hb dX11_readRouter_175 ic_1 ?_
                refine lv_iadd hx hb dX11_readRouter_176 ?_
                have b187 : iv 1 12 ((q_told 4) + 1) := iv_add b2 ivk_1 (by decide) (by decide) (by decide) (by decide)
                refine va_iast hx hb hK hP hD hS 0 1 rfl rfl (vp_in_nI (n := 4) (by decide) (by decide)) dX11_readRouter_177 (fun H locs hPa hDa hS => ?_)
                clear hP hD
                have hP : va_P (dC, dI) vwCl [(ra 2, .inl (kI, 8, .inl (upd q_told 4 ((q_told 4) + 1)))), (ra 3, .inl (kI, 24, .inl (upd q_kind (12 + (q_told 4)).toNatClampNeg r17))), (ra 4, .inl (kI, 24, .inl (upd q_salt (12 + (q_told 4)).toNatClampNeg r147))), (ra 5, .inl (kI, 24, .inl (upd q_pace (12 + (q_told 4)).toNatClampNeg r158))), (ra 6, .inl (kI, 24, .inl (upd q_mute (12 + (q_told 4)).toNatClampNeg 0))), (ra 7, .inl (kI, 24, .inl (upd q_late (12 + (q_told 4)).toNatClampNeg 0))), (ra 1, .inl (kS, 4, .inr (.inr (.inr (.inr q_kinds))))), (m0, .inr (11, oX11 ra y160)), (ra 13, .inl (kI, 700, .inl q_tape))] H := hPa
                have hD : va_D A [(ra 2, .inl (kI, 8, .inl (upd q_told 4 ((q_told 4) + 1)))), (ra 3, .inl (kI, 24, .inl (upd q_kind (12 + (q_told 4)).toNatClampNeg r17))), (ra 4, .inl (kI, 24, .inl (upd q_salt (12 + (q_told 4)).toNatClampNeg r147))), (ra 5, .inl (kI, 24, .inl (upd q_pace (12 + (q_told 4)).toNatClampNeg r158))), (ra 6, .inl (kI, 24, .inl (upd q_mute (12 + (q_told 4)).toNatClampNeg 0))), (ra 7, .inl (kI, 24, .inl (upd q_late (12 + (q_told 4)).toNatClampNeg 0))), (ra 1, .inl (kS, 4, .inr (.inr (.inr (.inr q_kinds))))), (m0, .inr (11, oX11 ra y160)), (ra 13, .inl (kI, 700, .inl q_tape))] := hDa
                clear hPa hDa
                have hPD9 := cl_s (wc := [(m0, .inr (11, oX11 ra y160)), (ra 2, .inl (kI, 8, .inl (upd q_told 4 ((q_told 4) + 1)))), (ra 3, .inl (kI, 24, .inl (upd q_kind (12 + (q_told 4)).toNatClampNeg r17))), (ra 4, .inl (kI, 24, .inl (upd q_salt (12 + (q_told 4)).toNatClampNeg r147))), (ra 5, .inl (kI, 24, .inl (upd q_pace (12 + (q_told 4)).toNatClampNeg r158))), (ra 6, .inl (kI, 24, .inl (upd q_mute (12 + (q_told 4)).toNatClampNeg 0))), (ra 7, .inl (kI, 24, .inl (upd q_late (12 + (q_told 4)).toNatClampNeg 0))), (ra 13, .inl (kI, 700, .inl q_tape)), (ra 1, .inl (kS, 4, .inr (.inr (.inr (.inr q_kinds)))))]) hP hD [7, 0, 1, 2, 3, 4, 5, 8, 6] rfl (by decide +kernel)
                have hP9 := hPD9.1
                have hD9 := hPD9.2
                exact W.vret hx hb hr (fun t ht hW => ⟨⟨(), rfl, trivial, y160, upd q_told 4 ((q_told 4) + 1), upd q_kind (12 + (q_told 4)).toNatClampNeg r17, upd q_salt (12 + (q_told 4)).toNatClampNeg r147, upd q_pace (12 + (q_told 4)).toNatClampNeg r158, upd q_mute (12 + (q_told 4)).toNatClampNeg 0, upd q_late (12 + (q_told 4)).toNatClampNeg 0, hq161, (fI_u hq_told (k := 4) ((iv_w b187 (by decide) (by decide)))), (fI_u hq_salt (k := (12 + (q_told 4)).toNatClampNeg) (w148.1)), (show (x0 2).toInt ≤ (y160 2).toInt from by omega), (show y160 3 = x0 3 from hq163.trans (hq152.trans (hq140.trans (hq10)))), (show ∀ j : Nat, (j : Int) < (q_told 1).toInt → (q_from j).toInt < (q_to j).toInt from hLT), (show ∀ j : Nat, (j : Int) < (q_told 5).toInt → (q_from (20 + j)).toInt < (q_to (20 + j)).toInt from hLD), (show RRd tT nN y160 (rtrS tT nN sS (q_told 4)) from it_f (Q := RRd tT nN y160) c1 (hrr186)), fun _ => ⟨rfl, congrArg (upd q_kind ((12 + (q_told 4)).toNatClampNeg)) ((kq_y hwk c19).2 (ok_next (ok_num (ok_next (ok_num (ok_next (rr_ok hrr168 c179))))))), congrArg (upd q_salt ((12 + (q_told 4)).toNatClampNeg)) (hv2 (ok_next (ok_num (ok_next (rr_ok hrr168 c179))))), congrArg (upd q_pace ((12 + (q_told 4)).toNatClampNeg)) (hv3 (ok_next (rr_ok hrr168 c179))), congrArg (upd q_mute ((12 + (q_told 4)).toNatClampNeg)) c172.symm, congrArg (upd q_late ((12 + (q_told 4)).toNatClampNeg)) c177.symm⟩, (show y160 1 = x0 1 from hq165.trans (hq154.trans (hq143.trans (hq13)))), (show y160 10 = x0 10 from hq166.trans (hq155.trans (hq144.trans (hq14)))), (show y160 23 = x0 23 from hq167.trans (hq156.trans (hq145.trans (hq15)))), by rw [ht]; exact hP9, hD9⟩, hS.F ht⟩) hS.2.2 dX11_readRouter_178
            · have b188 : iv 1 1 (wS tT 9 (rtr4 tT nN sS)) := iv_neLo c177 b176 ivk_0 (by decide) (by decide)
              refine lv_iconst (v := 1) hx hb dX11_readRouter_135 ic_1 ?_
              refine lv_goto (tgt := 140) hx hb dX11_readRouter_136 rfl ?_
              refine va_iast hx hb hK hP hD hS 5 1 rfl rfl (iv_in b16 (by decide) (by decide)) dX11_readRouter_140 (fun H locs hPa hDa hS => ?_)
              clear hP hD
              have hP : va_P (dC, dI) vwCl [(ra 2, .inl (kI, 8, .inl q_told)), (ra 3, .inl (kI, 24, .inl (upd q_kind (12 + (q_told 4)).toNatClampNeg r17))), (ra 4, .inl (kI, 24, .inl (upd q_salt (12 + (q_told 4)).toNatClampNeg r147))), (ra 5, .inl (kI, 24, .inl (upd q_pace (12 + (q_told 4)).toNatClampNeg r158))), (ra 6, .inl (kI, 24, .inl (upd q_mute (12 + (q_told 4)).toNatClampNeg 0))), (ra 7, .inl (kI, 24, .inl (upd q_late (12 + (q_told 4)).toNatClampNeg 1))), (ra 1, .inl (kS, 4, .inr (.inr (.inr (.inr q_kinds))))), (m0, .inr (11, oX11 ra y160)), (ra 13, .inl (kI, 700, .inl q_tape))] H := hPa
              have hD : va_D A [(ra 2, .inl (kI, 8, .inl q_told)), (ra 3, .inl (kI, 24, .inl (upd q_kind (12 + (q_told 4)).toNatClampNeg r17))), (ra 4, .inl (kI, 24, .inl (upd q_salt (12 + (q_told 4)).toNatClampNeg r147))), (ra 5, .inl (kI, 24, .inl (upd q_pace (12 + (q_told 4)).toNatClampNeg r158))), (ra 6, .inl (kI, 24, .inl (upd q_mute (12 + (q_told 4)).toNatClampNeg 0))), (ra 7, .inl (kI, 24, .inl (upd q_late (12 + (q_told 4)).toNatClampNeg 1))), (ra 1, .inl (kS, 4, .inr (.inr (.inr (.inr q_kinds))))), (m0, .inr (11, oX11 ra y160)), (ra 13, .inl (kI, 700, .inl q_tape))] := hDa
              clear hPa hDa
              refine lv_aload_n hx hb dX11_readRouter_141 rfl (lv_at hl 2 rfl) ?_
              refine va_get (D := (dC, dI)) (ci := 11) (v := .int (y160 8)) (C := RX11) (T := TX11) (N := 61) hx hb hts hin11 hown hK hP 7 rfl rfl 22 (Nat.le_of_ble_eq_true rfl) hw_1 (fun _ h9 => h9) rfl dX11_readRouter_142 ?_
              refine lv_if_ne (tgt := 168) hx hb dX11_readRouter_145 rfl (fun c189 => ?_) (fun c189 => ?_)
              · have b190 : iv 1 5 (y160 8) := iv_neLo c189 (hq161 8 : iv 0 5 (y160 8)) ivk_0 (by decide) (by decide)
                have hrr191 : RRd tT nN y160 (manT tT nN (rtr4 tT nN sS)) := (mq_b hrr168 c189) ▸ hrr168
                refine lv_aload_n hx hb dX11_readRouter_168 rfl (lv_at hl 2 rfl) ?_
                refine va_get (D := (dC, dI)) (ci := 11) (v := .ref (ra 2)) (C := RX11) (T := TX11) (N := 61) hx hb hts hin11 hown hK hP 7 rfl rfl 3 (Nat.le_of_ble_eq_true rfl) hw_0 (fun _ h9 => h9) rfl dX11_readRouter_169 ?_
                refine lv_iconst (v := 4) hx hb dX11_readRouter_172 ic_4 ?_
                refine lv_dup2_11 hx hb dX11_readRouter_173 rfl rfl ?_
                refine va_iald hx hb hK hP 0 1 rfl rfl (vp_in_nI (n := 4) (by decide) (by decide)) dX11_readRouter_174 ?_
                refine W.eq (g2 := F0 m 175 ls [.int (q_told 4), .int 4, .ref (ra 2)]) rfl ?_
                refine lv_iconst (v := 1) hx hb dX11_readRouter_175 ic_1 ?_
                refine lv_iadd hx hb dX11_readRouter_176 ?_
                have b192 : iv 1 12 ((q_told 4) + 1) := iv_add b2 ivk_1 (by decide) (by decide) (by decide) (by decide)
                refine va_iast hx hb hK hP hD hS 0 1 rfl rfl (vp_in_nI (n := 4) (by decide) (by decide)) dX11_readRouter_177 (fun H locs hPa hDa hS => ?_)
                clear hP hD
                have hP : va_P (dC, dI) vwCl [(ra 2, .inl (kI, 8, .inl (upd q_told 4 ((q_told 4) + 1)))), (ra 3, .inl (kI, 24, .inl (upd q_kind (12 + (q_told 4)).toNatClampNeg r17))), (ra 4, .inl (kI, 24, .inl (upd q_salt (12 + (q_told 4)).toNatClampNeg r147))), (ra 5, .inl (kI, 24, .inl (upd q_pace (12 + (q_told 4)).toNatClampNeg r158))), (ra 6, .inl (kI, 24, .inl (upd q_mute (12 + (q_told 4)).toNatClampNeg 0))), (ra 7, .inl (kI, 24, .inl (upd q_late (12 + (q_told 4)).toNatClampNeg 1))), (ra 1, .inl (kS, 4, .inr (.inr (.inr (.inr q_kinds))))), (m0, .inr (11, oX11 ra y160)), (ra 13, .inl (kI, 700, .inl q_tape))] H := hPa
                have hD : va_D A [(ra 2, .inl (kI, 8, .inl (upd q_told 4 ((q_told 4) + 1)))), (ra 3, .inl (kI, 24, .inl (upd q_kind (12 + (q_told 4)).toNatClampNeg r17))), (ra 4, .inl (kI, 24, .inl (upd q_salt (12 + (q_told 4)).toNatClampNeg r147))), (ra 5, .inl (kI, 24, .inl (upd q_pace (12 + (q_told 4)).toNatClampNeg r158))), (ra 6, .inl (kI, 24, .inl (upd q_mute (12 + (q_told 4)).toNatClampNeg 0))), (ra 7, .inl (kI, 24, .inl (upd q_late (12 + (q_told 4)).toNatClampNeg 1))), (ra 1, .inl (kS, 4, .inr (.inr (.inr (.inr q_kinds))))), (m0, .inr (11, oX11 ra y160)), (ra 13, .inl (kI, 700, .inl q_tape))] := hDa
                clear hPa hDa
                have hPD9 := cl_s (wc := [(m0, .inr (11, oX11 ra y160)), (ra 2, .inl (kI, 8, .inl (upd q_told 4 ((q_told 4) + 1)))), (ra 3, .inl (kI, 24, .inl (upd q_kind (12 + (q_told 4)).toNatClampNeg r17))), (ra 4, .inl (kI, 24, .inl (upd q_salt (12 + (q_told 4)).toNatClampNeg r147))), (ra 5, .inl (kI, 24, .inl (upd q_pace (12 + (q_told 4)).toNatClampNeg r158))), (ra 6, .inl (kI, 24, .inl (upd q_mute (12 + (q_told 4)).toNatClampNeg 0))), (ra 7, .inl (kI, 24, .inl (upd q_late (12 + (q_told 4)).toNatClampNeg 1))), (ra 13, .inl (kI, 700, .inl q_tape)), (ra 1, .inl (kS, 4, .inr (.inr (.inr (.inr q_kinds)))))]) hP hD [7, 0, 1, 2, 3, 4, 5, 8, 6] rfl (by decide +kernel)
                have hP9 := hPD9.1
                have hD9 := hPD9.2
                exact W.vret hx hb hr (fun t ht hW => ⟨⟨(), rfl, trivial, y160, upd q_told 4 ((q_told 4) + 1), upd q_kind (12 + (q_told 4)).toNatClampNeg r17, upd q_salt (12 + (q_told 4)).toNatClampNeg r147, upd q_pace (12 + (q_told 4)).toNatClampNeg r158, upd q_mute (12 + (q_told 4)).toNatClampNeg 0, upd q_late (12 + (q_told 4)).toNatClampNeg 1, hq161, (fI_u hq_told (k := 4) ((iv_w b192 (by decide) (by decide)))), (fI_u hq_salt (k := (12 + (q_told 4)).toNatClampNeg) (w148.1)), (show (x0 2).toInt ≤ (y160 2).toInt from by omega), (show y160 3 = x0 3 from hq163.trans (hq152.trans (hq140.trans (hq10)))), (show ∀ j : Nat, (j : Int) < (q_told 1).toInt → (q_from j).toInt < (q_to j).toInt from hLT), (show ∀ j : Nat, (j : Int) < (q_told 5).toInt → (q_from (20 + j)).toInt < (q_to (20 + j)).toInt from hLD), (show RRd tT nN y160 (rtrS tT nN sS (q_told 4)) from it_f (Q := RRd tT nN y160) c1 (hrr191)), fun w => absurd w c189, (show y160 1 = x0 1 from hq165.trans (hq154.trans (hq143.trans (hq13)))), (show y160 10 = x0 10 from hq166.trans (hq155.trans (hq144.trans (hq14)))), (show y160 23 = x0 23 from hq167.trans (hq156.trans (hq145.trans (hq15)))), by rw [ht]; exact hP9, hD9⟩, hS.F ht⟩) hS.2.2 dX11_readRouter_178
              · have b193 : iv 0 0 (y160 8) := iv_eqL c189 ivk_0
                refine lv_aload_n hx hb dX11_readRouter_148 rfl (lv_at hl 2 rfl) ?_
                refine va_get (D := (dC, dI)) (ci := 11) (v := .ref (ra 6)) (C := RX11) (T := TX11) (N := 61) hx hb hts hin11 hown hK hP 7 rfl rfl 7 (Nat.le_of_ble_eq_true rfl) hw_6 (fun _ h9 => h9) rfl dX11_readRouter_149 ?_
                refine lv_iload_n hx hb dX11_readRouter_152 rfl (lv_at hl 1 rfl) ?_
                refine va_iald hx hb hK hP 4 1 rfl rfl (iv_in b16 (by decide) (by decide)) dX11_readRouter_153 ?_
                refine W.eq (g2 := F0 m 154 ls [.int 0]) (by rw [upd_eq]) ?_
                refine lv_aload_n hx hb dX11_readRouter_154 rfl (lv_at hl 2 rfl) ?_
                refine va_get (D := (dC, dI)) (ci := 11) (v := .ref (ra 7)) (C := RX11) (T := TX11) (N := 61) hx hb hts hin11 hown hK hP 7 rfl rfl 8 (Nat.le_of_ble_eq_true rfl) hw_7 (fun _ h9 => h9) rfl dX11_readRouter_155 ?_
                refine lv_iload_n hx hb dX11_readRouter_158 rfl (lv_at hl 1 rfl) ?_
                refine va_iald hx hb hK hP 5 1 rfl rfl (iv_in b16 (by decide) (by decide)) dX11_readRouter_159 ?_
                refine W.eq (g2 := F0 m 160 ls [.int 1, .int 0]) (by rw [upd_eq]) ?_
                refine lv_iadd hx hb dX11_readRouter_160 ?_
                refine lv_topi (fun z194 e195 => ?_)
                obtain rfl : z194 = (1 : Int32) := e195.trans (by decide)
                refine lv_if_le (tgt := 168) hx hb dX11_readRouter_161 rfl (fun c9 => absurd c9 (by decide)) (fun _ => ?_)
                refine lv_aload_n hx hb dX11_readRouter_164 rfl (lv_at hl 2 rfl) ?_
                obtain ⟨hPc, hDc, hFc, hJn⟩ := cl_a (wc := [(m0, .inr (11, oX11 ra y160)), (ra 13, .inl (kI, 700, .inl q_tape))]) (wr := [(ra 2, .inl (kI, 8, .inl q_told)), (ra 3, .inl (kI, 24, .inl (upd q_kind (12 + (q_told 4)).toNatClampNeg r17))), (ra 4, .inl (kI, 24, .inl (upd q_salt (12 + (q_told 4)).toNatClampNeg r147))), (ra 5, .inl (kI, 24, .inl (upd q_pace (12 + (q_told 4)).toNatClampNeg r158))), (ra 6, .inl (kI, 24, .inl (upd q_mute (12 + (q_told 4)).toNatClampNeg 0))), (ra 7, .inl (kI, 24, .inl (upd q_late (12 + (q_told 4)).toNatClampNeg 1))), (ra 1, .inl (kS, 4, .inr (.inr (.inr (.inr q_kinds)))))]) hP hD hS hA [7, 8] [0, 1, 2, 3, 4, 5, 6] rfl rfl (by decide +kernel)
                refine va_callv (va_runV (As := []) (rest := []) ⟨hx, hb, hml, hown, hts⟩ (s11_stepOn l dC dI kB kI kJ kZ kC kS H.size m0 ra y160 q_tape tT nN (nextT tT nN (rtr4 tT nN sS)) (hq161) (hq_tape) (hrr168.2) (stp_of hrr168) (hTQ)) (cwV 0 hts gX11_readRouter_X11_stepOn rfl rfl rfl (by decide +kernel) ⟨Nat.le_of_ble_eq_true rfl, Nat.le_of_ble_eq_true rfl⟩) ⟨fun a U g mk q => by obtain ⟨q0, q1, qP, qE, qD⟩ := q; exact ⟨q0, q1, qP, kE_call qE, qD⟩, va_recv hK hP (ci := 11) (q0 := 7) rfl rfl, fun U hU hW => ⟨rfl, by rw [hU], by rw [hU]; exact hPc, kE_warm hW hE, hDc.weaken (fun _ _ _ _ => trivial)⟩⟩ rfl rfl hl.1 rfl (lv_room (Nat.le_of_ble_eq_true rfl)) dX11_readRouter_165 ⟨Nat.le_of_ble_eq_true rfl, Nat.le_of_ble_eq_true rfl⟩) hS (fun q _ h => hFc q h) hFc (fun u t H locs ht hvm w197 hB hz1 hk1 hS => ?_)
                obtain ⟨y198, hq199, hq200, hq201, hq202, hq203, hq204, hq205, hq206, hP1, hD1⟩ := hB
                try dsimp only at w197
                obtain ⟨hPa, hDa⟩ := hJn (w1 := [(m0, .inr (11, oX11 ra y198)), (ra 13, .inl (kI, 700, .inl q_tape))]) hk1 ht hP1 hD1
                clear hP hD hPc hDc hFc hJn hP1 hD1 hk1
                have hP : va_P (dC, dI) vwCl [(ra 2, .inl (kI, 8, .inl q_told)), (ra 3, .inl (kI, 24, .inl (upd q_kind (12 + (q_told 4)).toNatClampNeg r17))), (ra 4, .inl (kI, 24, .inl (upd q_salt (12 + (q_told 4)).toNatClampNeg r147))), (ra 5, .inl (kI, 24, .inl (upd q_pace (12 + (q_told 4)).toNatClampNeg r158))), (ra 6, .inl (kI, 24, .inl (upd q_mute (12 + (q_told 4)).toNatClampNeg 0))), (ra 7, .inl (kI, 24, .inl (upd q_late (12 + (q_told 4)).toNatClampNeg 1))), (ra 1, .inl (kS, 4, .inr (.inr (.inr (.inr q_kinds))))), (m0, .inr (11, oX11 ra y198)), (ra 13, .inl (kI, 700, .inl q_tape))] H := hPa
                have hD : va_D A [(ra 2, .inl (kI, 8, .inl q_told)), (ra 3, .inl (kI, 24, .inl (upd q_kind (12 + (q_told 4)).toNatClampNeg r17))), (ra 4, .inl (kI, 24, .inl (upd q_salt (12 + (q_told 4)).toNatClampNeg r147))), (ra 5, .inl (kI, 24, .inl (upd q_pace (12 + (q_told 4)).toNatClampNeg r158))), (ra 6, .inl (kI, 24, .inl (upd q_mute (12 + (q_told 4)).toNatClampNeg 0))), (ra 7, .inl (kI, 24, .inl (upd q_late (12 + (q_told 4)).toNatClampNeg 1))), (ra 1, .inl (kS, 4, .inr (.inr (.inr (.inr q_kinds))))), (m0, .inr (11, oX11 ra y198)), (ra 13, .inl (kI, 700, .inl q_tape))] := hDa
                clear hPa hDa
                refine W.widen (k := 0) (n := 0) (Nat.le_of_ble_eq_true rfl) (Nat.le_of_ble_eq_true rfl) ?_
                have hrr207 : RRd tT nN y198 (manT tT nN (rtr4 tT nN sS)) := (mq_s hrr168 c189 (Or.inr c177)) ▸ hq203
                refine lv_aload_n hx hb dX11_readRouter_168 rfl (lv_at hl 2 rfl) ?_
                refine va_get (D := (dC, dI)) (ci := 11) (v := .ref (ra 2)) (C := RX11) (T := TX11) (N := 61) hx hb hts hin11 hown hK hP 7 rfl rfl 3 (Nat.le_of_ble_eq_true rfl) hw_0 (fun _ h9 => h9) rfl dX11_readRouter_169 ?_
                refine lv_iconst (v := 4) hx hb dX11_readRouter_172 ic_4 ?_
                refine lv_dup2_11 hx hb dX11_readRouter_173 rfl rfl ?_
                refine va_iald hx hb hK hP 0 1 rfl rfl (vp_in_nI (n := 4) (by decide) (by decide)) dX11_readRouter_174 ?_
                refine W.eq (g2 := F0 m 175 ls [.int (q_told 4), .int 4, .ref (ra 2)]) rfl ?_
                refine lv_iconst (v := 1) hx hb dX11_readRouter_175 ic_1 ?_
                refine lv_iadd hx hb dX11_readRouter_176 ?_
                have b208 : iv 1 12 ((q_told 4) + 1) := iv_add b2 ivk_1 (by decide) (by decide) (by decide) (by decide)
                refine va_iast hx hb hK hP hD hS 0 1 rfl rfl (vp_in_nI (n := 4) (by decide) (by decide)) dX11_readRouter_177 (fun H locs hPa hDa hS => ?_)
                clear hP hD
                have hP : va_P (dC, dI) vwCl [(ra 2, .inl (kI, 8, .inl (upd q_told 4 ((q_told 4) + 1)))), (ra 3, .inl (kI, 24, .inl (upd q_kind (12 + (q_told 4)).toNatClampNeg r17))), (ra 4, .inl (kI, 24, .inl (upd q_salt (12 + (q_told 4)).toNatClampNeg r147))), (ra 5, .inl (kI, 24, .inl (upd q_pace (12 + (q_told 4)).toNatClampNeg r158))), (ra 6, .inl (kI, 24, .inl (upd q_mute (12 + (q_told 4)).toNatClampNeg 0))), (ra 7, .inl (kI, 24, .inl (upd q_late (12 + (q_told 4)).toNatClampNeg 1))), (ra 1, .inl (kS, 4, .inr (.inr (.inr (.inr q_kinds))))), (m0, .inr (11, oX11 ra y198)), (ra 13, .inl (kI, 700, .inl q_tape))] H := hPa
                have hD : va_D A [(ra 2, .inl (kI, 8, .inl (upd q_told 4 ((q_told 4) + 1)))), (ra 3, .inl (kI, 24, .inl (upd q_kind (12 + (q_told 4)).toNatClampNeg r17))), (ra 4, .inl (kI, 24, .inl (upd q_salt (12 + (q_told 4)).toNatClampNeg r147))), (ra 5, .inl (kI, 24, .inl (upd q_pace (12 + (q_told 4)).toNatClampNeg r158))), (ra 6, .inl (kI, 24, .inl (upd q_mute (12 + (q_told 4)).toNatClampNeg 0))), (ra 7, .inl (kI, 24, .inl (upd q_late (12 + (q_told 4)).toNatClampNeg 1))), (ra 1, .inl (kS, 4, .inr (.inr (.inr (.inr q_kinds))))), (m0, .inr (11, oX11 ra y198)), (ra 13, .inl (kI, 700, .inl q_tape))] := hDa
                clear hPa hDa
                have hPD9 := cl_s (wc := [(m0, .inr (11, oX11 ra y198)), (ra 2, .inl (kI, 8, .inl (upd q_told 4 ((q_told 4) + 1)))), (ra 3, .inl (kI, 24, .inl (upd q_kind (12 + (q_told 4)).toNatClampNeg r17))), (ra 4, .inl (kI, 24, .inl (upd q_salt (12 + (q_told 4)).toNatClampNeg r147))), (ra 5, .inl (kI, 24, .inl (upd q_pace (12 + (q_told 4)).toNatClampNeg r158))), (ra 6, .inl (kI, 24, .inl (upd q_mute (12 + (q_told 4)).toNatClampNeg 0))), (ra 7, .inl (kI, 24, .inl (upd q_late (12 + (q_told 4)).toNatClampNeg 1))), (ra 13, .inl (kI, 700, .inl q_tape)), (ra 1, .inl (kS, 4, .inr (.inr (.inr (.inr q_kinds)))))]) hP hD [7, 0, 1, 2, 3, 4, 5, 8, 6] rfl (by decide +kernel)
                have hP9 := hPD9.1
                have hD9 := hPD9.2
                exact W.vret hx hb hr (fun t ht hW => ⟨⟨(), rfl, trivial, y198, upd q_told 4 ((q_told 4) + 1), upd q_kind (12 + (q_told 4)).toNatClampNeg r17, upd q_salt (12 + (q_told 4)).toNatClampNeg r147, upd q_pace (12 + (q_told 4)).toNatClampNeg r158, upd q_mute (12 + (q_told 4)).toNatClampNeg 0, upd q_late (12 + (q_told 4)).toNatClampNeg 1, hq199, (fI_u hq_told (k := 4) ((iv_w b208 (by decide) (by decide)))), (fI_u hq_salt (k := (12 + (q_told 4)).toNatClampNeg) (w148.1)), (show (x0 2).toInt ≤ (y198 2).toInt from by omega), (show y198 3 = x0 3 from hq201.trans (hq163.trans (hq152.trans (hq140.trans (hq10))))), (show ∀ j : Nat, (j : Int) < (q_told 1).toInt → (q_from j).toInt < (q_to j).toInt from hLT), (show ∀ j : Nat, (j : Int) < (q_told 5).toInt → (q_from (20 + j)).toInt < (q_to (20 + j)).toInt from hLD), (show RRd tT nN y198 (rtrS tT nN sS (q_told 4)) from it_f (Q := RRd tT nN y198) c1 (hrr207)), fun _ => ⟨rfl, congrArg (upd q_kind ((12 + (q_told 4)).toNatClampNeg)) ((kq_y hwk c19).2 (ok_next (ok_num (ok_next (ok_num (ok_next (rr_ok hrr168 c189))))))), congrArg (upd q_salt ((12 + (q_told 4)).toNatClampNeg)) (hv2 (ok_next (ok_num (ok_next (rr_ok hrr168 c189))))), congrArg (upd q_pace ((12 + (q_told 4)).toNatClampNeg)) (hv3 (ok_next (rr_ok hrr168 c189))), congrArg (upd q_mute ((12 + (q_told 4)).toNatClampNeg)) c172.symm, congrArg (upd q_late ((12 + (q_told 4)).toNatClampNeg)) (wS_1 c177)⟩, (show y198 1 = x0 1 from hq204.trans (hq165.trans (hq154.trans (hq143.trans (hq13))))), (show y198 10 = x0 10 from hq205.trans (hq166.trans (hq155.trans (hq144.trans (hq14))))), (show y198 23 = x0 23 from hq206.trans (hq167.trans (hq156.trans (hq145.trans (hq15))))), by rw [ht]; exact hP9, hD9⟩, hS.F ht⟩) hS.2.2 dX11_readRouter_178
          · have b209 : iv 1 1 (wS tT 8 (rtr4 tT nN sS)) := iv_neLo c172 b171 ivk_0 (by decide) (by decide)
            refine lv_iconst (v := 1) hx hb dX11_readRouter_115 ic_1 ?_
            refine lv_goto (tgt := 120) hx hb dX11_readRouter_116 rfl ?_
            refine va_iast hx hb hK hP hD hS 4 1 rfl rfl (iv_in b16 (by decide) (by decide)) dX11_readRouter_120 (fun H locs hPa hDa hS => ?_)
            clear hP hD
            have hP : va_P (dC, dI) vwCl [(ra 2, .inl (kI, 8, .inl q_told)), (ra 3, .inl (kI, 24, .inl (upd q_kind (12 + (q_told 4)).toNatClampNeg r17))), (ra 4, .inl (kI, 24, .inl (upd q_salt (12 + (q_told 4)).toNatClampNeg r147))), (ra 5, .inl (kI, 24, .inl (upd q_pace (12 + (q_told 4)).toNatClampNeg r158))), (ra 6, .inl (kI, 24, .inl (upd q_mute (12 + (q_told 4)).toNatClampNeg 1))), (ra 7, .inl (kI, 24, .inl q_late)), (ra 1, .inl (kS, 4, .inr (.inr (.inr (.inr q_kinds))))), (m0, .inr (11, oX11 ra y160)), (ra 13, .inl (kI, 700, .inl q_tape))] H := hPa
            have hD : va_D A [(ra 2, .inl (kI, 8, .inl q_told)), (ra 3, .inl (kI, 24, .inl (upd q_kind (12 + (q_told 4)).toNatClampNeg r17))), (ra 4, .inl (kI, 24, .inl (upd q_salt (12 + (q_told 4)).toNatClampNeg r147))), (ra 5, .inl (kI, 24, .inl (upd q_pace (12 + (q_told 4)).toNatClampNeg r158))), (ra 6, .inl (kI, 24, .inl (upd q_mute (12 + (q_told 4)).toNatClampNeg 1))), (ra 7, .inl (kI, 24, .inl q_late)), (ra 1, .inl (kS, 4, .inr (.inr (.inr (.inr q_kinds))))), (m0, .inr (11, oX11 ra y160)), (ra 13, .inl (kI, 700, .inl q_tape))] := hDa
            clear hPa hDa
            refine lv_aload_n hx hb dX11_readRouter_121 rfl (lv_at hl 2 rfl) ?_
            refine va_get (D := (dC, dI)) (ci := 11) (v := .ref (ra 7)) (C := RX11) (T := TX11) (N := 61) hx hb hts hin11 hown hK hP 7 rfl rfl 8 (Nat.le_of_ble_eq_true rfl) hw_7 (fun _ h9 => h9) rfl dX11_readRouter_122 ?_
            refine lv_iload_n hx hb dX11_readRouter_125 rfl (lv_at hl 1 rfl) ?_
            refine lv_aload_n hx hb dX11_readRouter_126 rfl (lv_at hl 2 rfl) ?_
            refine va_ldcS hx hb hown hKL.2.2.2.2.2.2.2.2.2.2.2.2.2.2.2.2.2.2.2.2.2.2 dX11_readRouter_127 ?_
            obtain ⟨hPc, hDc, hFc, hJn⟩ := cl_a (wc := [(m0, .inr (11, oX11 ra y160)), (ra 13, .inl (kI, 700, .inl q_tape))]) (wr := [(ra 2, .inl (kI, 8, .inl q_told)), (ra 3, .inl (kI, 24, .inl (upd q_kind (12 + (q_told 4)).toNatClampNeg r17))), (ra 4, .inl (kI, 24, .inl (upd q_salt (12 + (q_told 4)).toNatClampNeg r147))), (ra 5, .inl (kI, 24, .inl (upd q_pace (12 + (q_told 4)).toNatClampNeg r158))), (ra 6, .inl (kI, 24, .inl (upd q_mute (12 + (q_told 4)).toNatClampNeg 1))), (ra 7, .inl (kI, 24, .inl q_late)), (ra 1, .inl (kS, 4, .inr (.inr (.inr (.inr q_kinds)))))]) hP hD hS hA [7, 8] [0, 1, 2, 3, 4, 5, 6] rfl rfl (by decide +kernel)
            refine va_calli (va_runV (As := [.ref (adK 9)]) (rest := [.int (12 + (q_told 4)), .ref (ra 7)]) ⟨hx, hb, hml, hown, hts⟩ (s11_is l dC dI kB kI kJ kZ kC kS H.size adK adV m0 ra y160 q_tape 9 tT nN (rtr4 tT nN sS) (hq161) (hq_tape) ((by decide)) (hrr168) (hTQ)) (cwV 1 hts gX11_readRouter_X11_is rfl rfl rfl (by decide +kernel) ⟨Nat.le_of_ble_eq_true rfl, Nat.le_of_ble_eq_true rfl⟩) ⟨fun a U g mk q => by obtain ⟨q0, q1, qP, qE, qD, qL⟩ := q; exact ⟨q0, q1, qP, kE_call qE, qD, kL_call qL⟩, va_recv hK hP (ci := 11) (q0 := 7) rfl rfl, fun U hU hW => ⟨rfl, by rw [hU], by rw [hU]; exact hPc, kE_warm hW hE, hDc.weaken (fun _ _ _ _ => trivial), kL_at hKL hS hFc hW hU⟩⟩ rfl rfl hl.1 rfl (lv_room (Nat.le_of_ble_eq_true rfl)) dX11_readRouter_129 ⟨Nat.le_of_ble_eq_true rfl, Nat.le_of_ble_eq_true rfl⟩) hS (fun q _ h => hFc q h) hFc (fun r210 u t H locs ht hvm w211 hB hz1 hk1 hS => ?_)
            obtain ⟨hP1, hD1⟩ := hB
            try dsimp only at w211
            obtain ⟨hPa, hDa⟩ := hJn (w1 := [(m0, .inr (11, oX11 ra y160)), (ra 13, .inl (kI, 700, .inl q_tape))]) hk1 ht hP1 hD1
            clear hP hD hPc hDc hFc hJn hP1 hD1 hk1
            have hP : va_P (dC, dI) vwCl [(ra 2, .inl (kI, 8, .inl q_told)), (ra 3, .inl (kI, 24, .inl (upd q_kind (12 + (q_told 4)).toNatClampNeg r17))), (ra 4, .inl (kI, 24, .inl (upd q_salt (12 + (q_told 4)).toNatClampNeg r147))), (ra 5, .inl (kI, 24, .inl (upd q_pace (12 + (q_told 4)).toNatClampNeg r158))), (ra 6, .inl (kI, 24, .inl (upd q_mute (12 + (q_told 4)).toNatClampNeg 1))), (ra 7, .inl (kI, 24, .inl q_late)), (ra 1, .inl (kS, 4, .inr (.inr (.inr (.inr q_kinds))))), (m0, .inr (11, oX11 ra y160)), (ra 13, .inl (kI, 700, .inl q_tape))] H := hPa
            have hD : va_D A [(ra 2, .inl (kI, 8, .inl q_told)), (ra 3, .inl (kI, 24, .inl (upd q_kind (12 + (q_told 4)).toNatClampNeg r17))), (ra 4, .inl (kI, 24, .inl (upd q_salt (12 + (q_told 4)).toNatClampNeg r147))), (ra 5, .inl (kI, 24, .inl (upd q_pace (12 + (q_told 4)).toNatClampNeg r158))), (ra 6, .inl (kI, 24, .inl (upd q_mute (12 + (q_told 4)).toNatClampNeg 1))), (ra 7, .inl (kI, 24, .inl q_late)), (ra 1, .inl (kS, 4, .inr (.inr (.inr (.inr q_kinds))))), (m0, .inr (11, oX11 ra y160)), (ra 13, .inl (kI, 700, .inl q_tape))] := hDa
            clear hPa hDa
            refine W.widen (k := 0) (n := 0) (Nat.le_of_ble_eq_true rfl) (Nat.le_of_ble_eq_true rfl) ?_
            obtain ⟨w211, b212⟩ := w211
            subst w211
            refine lv_if_eq (tgt := 139) hx hb dX11_readRouter_132 rfl (fun c213 => ?_) (fun c213 => ?_)
            · have b214 : iv 0 0 (wS tT 9 (rtr4 tT nN sS)) := iv_eqL c213 ivk_0
              refine lv_iconst (v := 0) hx hb dX11_readRouter_139 ic_0 ?_
              refine va_iast hx hb hK hP hD hS 5 1 rfl rfl (iv_in b16 (by decide) (by decide)) dX11_readRouter_140 (fun H locs hPa hDa hS => ?_)
              clear hP hD
              have hP : va_P (dC, dI) vwCl [(ra 2, .inl (kI, 8, .inl q_told)), (ra 3, .inl (kI, 24, .inl (upd q_kind (12 + (q_told 4)).toNatClampNeg r17))), (ra 4, .inl (kI, 24, .inl (upd q_salt (12 + (q_told 4)).toNatClampNeg r147))), (ra 5, .inl (kI, 24, .inl (upd q_pace (12 + (q_told 4)).toNatClampNeg r158))), (ra 6, .inl (kI, 24, .inl (upd q_mute (12 + (q_told 4)).toNatClampNeg 1))), (ra 7, .inl (kI, 24, .inl (upd q_late (12 + (q_told 4)).toNatClampNeg 0))), (ra 1, .inl (kS, 4, .inr (.inr (.inr (.inr q_kinds))))), (m0, .inr (11, oX11 ra y160)), (ra 13, .inl (kI, 700, .inl q_tape))] H := hPa
              have hD : va_D A [(ra 2, .inl (kI, 8, .inl q_told)), (ra 3, .inl (kI, 24, .inl (upd q_kind (12 + (q_told 4)).toNatClampNeg r17))), (ra 4, .inl (kI, 24, .inl (upd q_salt (12 + (q_told 4)).toNatClampNeg r147))), (ra 5, .inl (kI, 24, .inl (upd q_pace (12 + (q_told 4)).toNatClampNeg r158))), (ra 6, .inl (kI, 24, .inl (upd q_mute (12 + (q_told 4)).toNatClampNeg 1))), (ra 7, .inl (kI, 24, .inl (upd q_late (12 + (q_told 4)).toNatClampNeg 0))), (ra 1, .inl (kS, 4, .inr (.inr (.inr (.inr q_kinds))))), (m0, .inr (11, oX11 ra y160)), (ra 13, .inl (kI, 700, .inl q_tape))] := hDa
              clear hPa hDa
              refine lv_aload_n hx hb dX11_readRouter_141 rfl (lv_at hl 2 rfl) ?_
              refine va_get (D := (dC, dI)) (ci := 11) (v := .int (y160 8)) (C := RX11) (T := TX11) (N := 61) hx hb hts hin11 hown hK hP 7 rfl rfl 22 (Nat.le_of_ble_eq_true rfl) hw_1 (fun _ h9 => h9) rfl dX11_readRouter_142 ?_
              refine lv_if_ne (tgt := 168) hx hb dX11_readRouter_145 rfl (fun c215 => ?_) (fun c215 => ?_)
              · have b216 : iv 1 5 (y160 8) := iv_neLo c215 (hq161 8 : iv 0 5 (y160 8)) ivk_0 (by decide) (by decide)
                have hrr217 : RRd tT nN y160 (manT tT nN (rtr4 tT nN sS)) := (mq_b hrr168 c215) ▸ hrr168
                refine lv_aload_n hx hb dX11_readRouter_168 rfl (lv_at hl 2 rfl) ?_
                refine va_get (D := (dC, dI)) (ci := 11) (v := .ref (ra 2)) (C := RX11) (T := TX11) (N := 61) hx hb hts hin11 hown hK hP 7 rfl rfl 3 (Nat.le_of_ble_eq_true rfl) hw_0 (fun _ h9 => h9) rfl dX11_readRouter_169 ?_
                refine lv_iconst (v := 4) hx hb dX11_readRouter_172 ic_4 ?_
                refine lv_dup2_11 hx hb dX11_readRouter_173 rfl rfl ?_
                refine va_iald hx hb hK hP 0 1 rfl rfl (vp_in_nI (n := 4) (by decide) (by decide)) dX11_readRouter_174 ?_
                refine W.eq (g2 := F0 m 175 ls [.int (q_told 4), .int 4, .ref (ra 2)]) rfl ?_
                refine lv_iconst (v := 1) hx hb dX11_readRouter_175 ic_1 ?_
                refine lv_iadd hx hb dX11_readRouter_176 ?_
                have b218 : iv 1 12 ((q_told 4) + 1) := iv_add b2 ivk_1 (by decide) (by decide) (by decide) (by decide)
                refine va_iast hx hb hK hP hD hS 0 1 rfl rfl (vp_in_nI (n := 4) (by decide) (by decide)) dX11_readRouter_177 (fun H locs hPa hDa hS => ?_)
                clear hP hD
                have hP : va_P (dC, dI) vwCl [(ra 2, .inl (kI, 8, .inl (upd q_told 4 ((q_told 4) + 1)))), (ra 3, .inl (kI, 24, .inl (upd q_kind (12 + (q_told 4)).toNatClampNeg r17))), (ra 4, .inl (kI, 24, .inl (upd q_salt (12 + (q_told 4)).toNatClampNeg r147))), (ra 5, .inl (kI, 24, .inl (upd q_pace (12 + (q_told 4)).toNatClampNeg r158))), (ra 6, .inl (kI, 24, .inl (upd q_mute (12 + (q_told 4)).toNatClampNeg 1))), (ra 7, .inl (kI, 24, .inl (upd q_late (12 + (q_told 4)).toNatClampNeg 0))), (ra 1, .inl (kS, 4, .inr (.inr (.inr (.inr q_kinds))))), (m0, .inr (11, oX11 ra y160)), (ra 13, .inl (kI, 700, .inl q_tape))] H := hPa
                have hD : va_D A [(ra 2, .inl (kI, 8, .inl (upd q_told 4 ((q_told 4) + 1)))), (ra 3, .inl (kI, 24, .inl (upd q_kind (12 + (q_told 4)).toNatClampNeg r17))), (ra 4, .inl (kI, 24, .inl (upd q_salt (12 + (q_told 4)).toNatClampNeg r147))), (ra 5, .inl (kI, 24, .inl (upd q_pace (12 + (q_told 4)).toNatClampNeg r158))), (ra 6, .inl (kI, 24, .inl (upd q_mute (12 + (q_told 4)).toNatClampNeg 1))), (ra 7, .inl (kI, 24, .inl (upd q_late (12 + (q_told 4)).toNatClampNeg 0))), (ra 1, .inl (kS, 4, .inr (.inr (.inr (.inr q_kinds))))), (m0, .inr (11, oX11 ra y160)), (ra 13, .inl (kI, 700, .inl q_tape))] := hDa
                clear hPa hDa
                have hPD9 := cl_s (wc := [(m0, .inr (11, oX11 ra y160)), (ra 2, .inl (kI, 8, .inl (upd q_told 4 ((q_told 4) + 1)))), (ra 3, .inl (kI, 24, .inl (upd q_kind (12 + (q_told 4)).toNatClampNeg r17))), (ra 4, .inl (kI, 24, .inl (upd q_salt (12 + (q_told 4)).toNatClampNeg r147))), (ra 5, .inl (kI, 24, .inl (upd q_pace (12 + (q_told 4)).toNatClampNeg r158))), (ra 6, .inl (kI, 24, .inl (upd q_mute (12 + (q_told 4)).toNatClampNeg 1))), (ra 7, .inl (kI, 24, .inl (upd q_late (12 + (q_told 4)).toNatClampNeg 0))), (ra 13, .inl (kI, 700, .inl q_tape)), (ra 1, .inl (kS, 4, .inr (.inr (.inr (.inr q_kinds)))))]) hP hD [7, 0, 1, 2, 3, 4, 5, 8, 6] rfl (by decide +kernel)
                have hP9 := hPD9.1
                have hD9 := hPD9.2
                exact W.vret hx hb hr (fun t ht hW => ⟨⟨(), rfl, trivial, y160, upd q_told 4 ((q_told 4) + 1), upd q_kind (12 + (q_told 4)).toNatClampNeg r17, upd q_salt (12 + (q_told 4)).toNatClampNeg r147, upd q_pace (12 + (q_told 4)).toNatClampNeg r158, upd q_mute (12 + (q_told 4)).toNatClampNeg 1, upd q_late (12 + (q_told 4)).toNatClampNeg 0, hq161, (fI_u hq_told (k := 4) ((iv_w b218 (by decide) (by decide)))), (fI_u hq_salt (k := (12 + (q_told 4)).toNatClampNeg) (w148.1)), (show (x0 2).toInt ≤ (y160 2).toInt from by omega), (show y160 3 = x0 3 from hq163.trans (hq152.trans (hq140.trans (hq10)))), (show ∀ j : Nat, (j : Int) < (q_told 1).toInt → (q_from j).toInt < (q_to j).toInt from hLT), (show ∀ j : Nat, (j : Int) < (q_told 5).toInt → (q_from (20 + j)).toInt < (q_to (20 + j)).toInt from hLD), (show RRd tT nN y160 (rtrS tT nN sS (q_told 4)) from it_f (Q := RRd tT nN y160) c1 (hrr217)), fun w => absurd w c215, (show y160 1 = x0 1 from hq165.trans (hq154.trans (hq143.trans (hq13)))), (show y160 10 = x0 10 from hq166.trans (hq155.trans (hq144.trans (hq14)))), (show y160 23 = x0 23 from hq167.trans (hq156.trans (hq145.trans (hq15)))), by rw [ht]; exact hP9, hD9⟩, hS.F ht⟩) hS.2.2 dX11_readRouter_178
              · have b219 : iv 0 0 (y160 8) := iv_eqL c215 ivk_0
                refine lv_aload_n hx hb dX11_readRouter_148 rfl (lv_at hl 2 rfl) ?_
                refine va_get (D := (dC, dI)) (ci := 11) (v := .ref (ra 6)) (C := RX11) (T := TX11) (N := 61) hx hb hts hin11 hown hK hP 7 rfl rfl 7 (Nat.le_of_ble_eq_true rfl) hw_6 (fun _ h9 => h9) rfl dX11_readRouter_149 ?_
                refine lv_iload_n hx hb dX11_readRouter_152 rfl (lv_at hl 1 rfl) ?_
                refine va_iald hx hb hK hP 4 1 rfl rfl (iv_in b16 (by decide) (by decide)) dX11_readRouter_153 ?_
                refine W.eq (g2 := F0 m 154 ls [.int 1]) (by rw [upd_eq]) ?_
                refine lv_aload_n hx hb dX11_readRouter_154 rfl (lv_at hl 2 rfl) ?_
                refine va_get (D := (dC, dI)) (ci := 11) (v := .ref (ra 7)) (C := RX11) (T := TX11) (N := 61) hx hb hts hin11 hown hK hP 7 rfl rfl 8 (Nat.le_of_ble_eq_true rfl) hw_7 (fun _ h9 => h9) rfl dX11_readRouter_155 ?_
                refine lv_iload_n hx hb dX11_readRouter_158 rfl (lv_at hl 1 rfl) ?_
                refine va_iald hx hb hK hP 5 1 rfl rfl (iv_in b16 (by decide) (by decide)) dX11_readRouter_159 ?_
                refine W.eq (g2 := F0 m 160 ls [.int 0, .int 1]) (by rw [upd_eq]) ?_
                refine lv_iadd hx hb dX11_readRouter_160 ?_
                refine lv_topi (fun z220 e221 => ?_)
                obtain rfl : z220 = (1 : Int32) := e221.trans (by decide)
                refine lv_if_le (tgt := 168) hx hb dX11_readRouter_161 rfl (fun c9 => absurd c9 (by decide)) (fun _ => ?_)
                refine lv_aload_n hx hb dX11_readRouter_164 rfl (lv_at hl 2 rfl) ?_
                obtain ⟨hPc, hDc, hFc, hJn⟩ := cl_a (wc := [(m0, .inr (11, oX11 ra y160)), (ra 13, .inl (kI, 700, .inl q_tape))]) (wr := [(ra 2, .inl (kI, 8, .inl q_told)), (ra 3, .inl (kI, 24, .inl (upd q_kind (12 + (q_told 4)).toNatClampNeg r17))), (ra 4, .inl (kI, 24, .inl (upd q_salt (12 + (q_told 4)).toNatClampNeg r147))), (ra 5, .inl (kI, 24, .inl (upd q_pace (12 + (q_told 4)).toNatClampNeg r158))), (ra 6, .inl (kI, 24, .inl (upd q_mute (12 + (q_told 4)).toNatClampNeg 1))), (ra 7, .inl (kI, 24, .inl (upd q_late (12 + (q_told 4)).toNatClampNeg 0))), (ra 1, .inl (kS, 4, .inr (.inr (.inr (.inr q_kinds)))))]) hP hD hS hA [7, 8] [0, 1, 2, 3, 4, 5, 6] rfl rfl (by decide +kernel)
                refine va_callv (va_runV (As := []) (rest := []) ⟨hx, hb, hml, hown, hts⟩ (s11_stepOn l dC dI kB kI kJ kZ kC kS H.size m0 ra y160 q_tape tT nN (nextT tT nN (rtr4 tT nN sS)) (hq161) (hq_tape) (hrr168.2) (stp_of hrr168) (hTQ)) (cwV 0 hts gX11_readRouter_X11_stepOn rfl rfl rfl (by decide +kernel) ⟨Nat.le_of_ble_eq_true rfl, Nat.le_of_ble_eq_true rfl⟩) ⟨fun a U g mk q => by obtain ⟨q0, q1, qP, qE, qD⟩ := q; exact ⟨q0, q1, qP, kE_call qE, qD⟩, va_recv hK hP (ci := 11) (q0 := 7) rfl rfl, fun U hU hW => ⟨rfl, by rw [hU], by rw [hU]; exact hPc, kE_warm hW hE, hDc.weaken (fun _ _ _ _ => trivial)⟩⟩ rfl rfl hl.1 rfl (lv_room (Nat.le_of_ble_eq_true rfl)) dX11_readRouter_165 ⟨Nat.le_of_ble_eq_true rfl, Nat.le_of_ble_eq_true rfl⟩) hS (fun q _ h => hFc q h) hFc (fun u t H locs ht hvm w223 hB hz1 hk1 hS => ?_)
                obtain ⟨y224, hq225, hq226, hq227, hq228, hq229, hq230, hq231, hq232, hP1, hD1⟩ := hB
                try dsimp only at w223
                obtain ⟨hPa, hDa⟩ := hJn (w1 := [(m0, .inr (11, oX11 ra y224)), (ra 13, .inl (kI, 700, .inl q_tape))]) hk1 ht hP1 hD1
                clear hP hD hPc hDc hFc hJn hP1 hD1 hk1
                have hP : va_P (dC, dI) vwCl [(ra 2, .inl (kI, 8, .inl q_told)), (ra 3, .inl (kI, 24, .inl (upd q_kind (12 + (q_told 4)).toNatClampNeg r17))), (ra 4, .inl (kI, 24, .inl (upd q_salt (12 + (q_told 4)).toNatClampNeg r147))), (ra 5, .inl (kI, 24, .inl (upd q_pace (12 + (q_told 4)).toNatClampNeg r158))), (ra 6, .inl (kI, 24, .inl (upd q_mute (12 + (q_told 4)).toNatClampNeg 1))), (ra 7, .inl (kI, 24, .inl (upd q_late (12 + (q_told 4)).toNatClampNeg 0))), (ra 1, .inl (kS, 4, .inr (.inr (.inr (.inr q_kinds))))), (m0, .inr (11, oX11 ra y224)), (ra 13, .inl (kI, 700, .inl q_tape))] H := hPa
                have hD : va_D A [(ra 2, .inl (kI, 8, .inl q_told)), (ra 3, .inl (kI, 24, .inl (upd q_kind (12 + (q_told 4)).toNatClampNeg r17))), (ra 4, .inl (kI, 24, .inl (upd q_salt (12 + (q_told 4)).toNatClampNeg r147))), (ra 5, .inl (kI, 24, .inl (upd q_pace (12 + (q_told 4)).toNatClampNeg r158))), (ra 6, .inl (kI, 24, .inl (upd q_mute (12 + (q_told 4)).toNatClampNeg 1))), (ra 7, .inl (kI, 24, .inl (upd q_late (12 + (q_told 4)).toNatClampNeg 0))), (ra 1, .inl (kS, 4, .inr (.inr (.inr (.inr q_kinds))))), (m0, .inr (11, oX11 ra y224)), (ra 13, .inl (kI, 700, .inl q_tape))] := hDa
                clear hPa hDa
                refine W.widen (k := 0) (n := 0) (Nat.le_of_ble_eq_true rfl) (Nat.le_of_ble_eq_true rfl) ?_
                have hrr233 : RRd tT nN y224 (manT tT nN (rtr4 tT nN sS)) := (mq_s hrr168 c215 (Or.inl c172)) ▸ hq229
                refine lv_aload_n hx hb dX11_readRouter_168 rfl (lv_at hl 2 rfl) ?_
                refine va_get (D := (dC, dI)) (ci := 11) (v := .ref (ra 2)) (C := RX11) (T := TX11) (N := 61) hx hb hts hin11 hown hK hP 7 rfl rfl 3 (Nat.le_of_ble_eq_true rfl) hw_0 (fun _ h9 => h9) rfl dX11_readRouter_169 ?_
                refine lv_iconst (v := 4) hx hb dX11_readRouter_172 ic_4 ?_
                refine lv_dup2_11 hx hb dX11_readRouter_173 rfl rfl ?_
                refine va_iald hx hb hK hP 0 1 rfl rfl (vp_in_nI (n := 4) (by decide) (by decide)) dX11_readRouter_174 ?_
                refine W.eq (g2 := F0 m 175 ls [.int (q_told 4), .int 4, .ref (ra 2)]) rfl ?_
                refine lv_iconst (v := 1) hx hb dX11_readRouter_175 ic_1 ?_
                refine lv_iadd hx hb dX11_readRouter_176 ?_
                have b234 : iv 1 12 ((q_told 4) + 1) := iv_add b2 ivk_1 (by decide) (by decide) (by decide) (by decide)
                refine va_iast hx hb hK hP hD hS 0 1 rfl rfl (vp_in_nI (n := 4) (by decide) (by decide)) dX11_readRouter_177 (fun H locs hPa hDa hS => ?_)
                clear hP hD
                have hP : va_P (dC, dI) vwCl [(ra 2, .inl (kI, 8, .inl (upd q_told 4 ((q_told 4) + 1)))), (ra 3, .inl (kI, 24, .inl (upd q_kind (12 + (q_told 4)).toNatClampNeg r17))), (ra 4, .inl (kI, 24, .inl (upd q_salt (12 + (q_told 4)).toNatClampNeg r147))), (ra 5, .inl (kI, 24, .inl (upd q_pace (12 + (q_told 4)).toNatClampNeg r158))), (ra 6, .inl (kI, 24, .inl (upd q_mute (12 + (q_told 4)).toNatClampNeg 1))), (ra 7, .inl (kI, 24, .inl (upd q_late (12 + (q_told 4)).toNatClampNeg 0))), (ra 1, .inl (kS, 4, .inr (.inr (.inr (.inr q_kinds))))), (m0, .inr (11, oX11 ra y224)), (ra 13, .inl (kI, 700, .inl q_tape))] H := hPa
                have hD : va_D A [(ra 2, .inl (kI, 8, .inl (upd q_told 4 ((q_told 4) + 1)))), (ra 3, .inl (kI, 24, .inl (upd q_kind (12 + (q_told 4)).toNatClampNeg r17))), (ra 4, .inl (kI, 24, .inl (upd q_salt (12 + (q_told 4)).toNatClampNeg r147))), (ra 5, .inl (kI, 24, .inl (upd q_pace (12 + (q_told 4)).toNatClampNeg r158))), (ra 6, .inl (kI, 24, .inl (upd q_mute (12 + (q_told 4)).toNatClampNeg 1))), (ra 7, .inl (kI, 24, .inl (upd q_late (12 + (q_told 4)).toNatClampNeg 0))), (ra 1, .inl (kS, 4, .inr (.inr (.inr (.inr q_kinds))))), (m0, .inr (11, oX11 ra y224)), (ra 13, .inl (kI, 700, .inl q_tape))] := hDa
                clear hPa hDa
                have hPD9 := cl_s (wc := [(m0, .inr (11, oX11 ra y224)), (ra 2, .inl (kI, 8, .inl (upd q_told 4 ((q_told 4) + 1)))), (ra 3, .inl (kI, 24, .inl (upd q_kind (12 + (q_told 4)).toNatClampNeg r17))), (ra 4, .inl (kI, 24, .inl (upd q_salt (12 + (q_told 4)).toNatClampNeg r147))), (ra 5, .inl (kI, 24, .inl (upd q_pace (12 + (q_told 4)).toNatClampNeg r158))), (ra 6, .inl (kI, 24, .inl (upd q_mute (12 + (q_told 4)).toNatClampNeg 1))), (ra 7, .inl (kI, 24, .inl (upd q_late (12 + (q_told 4)).toNatClampNeg 0))), (ra 13, .inl (kI, 700, .inl q_tape)), (ra 1, .inl (kS, 4, .inr (.inr (.inr (.inr q_kinds)))))]) hP hD [7, 0, 1, 2, 3, 4, 5, 8, 6] rfl (by decide +kernel)
                have hP9 := hPD9.1
                have hD9 := hPD9.2
                exact W.vret hx hb hr (fun t ht hW => ⟨⟨(), rfl, trivial, y224, upd q_told 4 ((q_told 4) + 1), upd q_kind (12 + (q_told 4)).toNatClampNeg r17, upd q_salt (12 + (q_told 4)).toNatClampNeg r147, upd q_pace (12 + (q_told 4)).toNatClampNeg r158, upd q_mute (12 + (q_told 4)).toNatClampNeg 1, upd q_late (12 + (q_told 4)).toNatClampNeg 0, hq225, (fI_u hq_told (k := 4) ((iv_w b234 (by decide) (by decide)))), (fI_u hq_salt (k := (12 + (q_told 4)).toNatClampNeg) (w148.1)), (show (x0 2).toInt ≤ (y224 2).toInt from by omega), (show y224 3 = x0 3 from hq227.trans (hq163.trans (hq152.trans (hq140.trans (hq10))))), (show ∀ j : Nat, (j : Int) < (q_told 1).toInt → (q_from j).toInt < (q_to j).toInt from hLT), (show ∀ j : Nat, (j : Int) < (q_told 5).toInt → (q_from (20 + j)).toInt < (q_to (20 + j)).toInt from hLD), (show RRd tT nN y224 (rtrS tT nN sS (q_told 4)) from it_f (Q := RRd tT nN y224) c1 (hrr233)), fun _ => ⟨rfl, congrArg (upd q_kind ((12 + (q_told 4)).toNatClampNeg)) ((kq_y hwk c19).2 (ok_next (ok_num (ok_next (ok_num (ok_next (rr_ok hrr168 c215))))))), congrArg (upd q_salt ((12 + (q_told 4)).toNatClampNeg)) (hv2 (ok_next (ok_num (ok_next (rr_ok hrr168 c215))))), congrArg (upd q_pace ((12 + (q_told 4)).toNatClampNeg)) (hv3 (ok_next (rr_ok hrr168 c215))), congrArg (upd q_mute ((12 + (q_told 4)).toNatClampNeg)) (wS_1 c172), congrArg (upd q_late ((12 + (q_told 4)).toNatClampNeg)) c213.symm⟩, (show y224 1 = x0 1 from hq230.trans (hq165.trans (hq154.trans (hq143.trans (hq13))))), (show y224 10 = x0 10 from hq231.trans (hq166.trans (hq155.trans (hq144.trans (hq14))))), (show y224 23 = x0 23 from hq232.trans (hq167.trans (hq156.trans (hq145.trans (hq15))))), by rw [ht]; exact hP9, hD9⟩, hS.F ht⟩) hS.2.2 dX11_readRouter_178
            · have b235 : iv 1 1 (wS tT 9 (rtr4 tT nN sS)) := iv_neLo c213 b212 ivk_0 (by decide) (by decide)
              refine lv_iconst (v := 1) hx hb dX11_readRouter_135 ic_1 ?_
              refine lv_goto (tgt := 140) hx hb dX11_readRouter_136 rfl ?_
              refine va_iast hx hb hK hP hD hS 5 1 rfl rfl (iv_in b16 (by decide) (by decide)) dX11_readRouter_140 (fun H locs hPa hDa hS => ?_)
              clear hP hD
              have hP : va_P (dC, dI) vwCl [(ra 2, .inl (kI, 8, .inl q_told)), (ra 3, .inl (kI, 24, .inl (upd q_kind (12 + (q_told 4)).toNatClampNeg r17))), (ra 4, .inl (kI, 24, .inl (upd q_salt (12 + (q_told 4)).toNatClampNeg r147))), (ra 5, .inl (kI, 24, .inl (upd q_pace (12 + (q_told 4)).toNatClampNeg r158))), (ra 6, .inl (kI, 24, .inl (upd q_mute (12 + (q_told 4)).toNatClampNeg 1))), (ra 7, .inl (kI, 24, .inl (upd q_late (12 + (q_told 4)).toNatClampNeg 1))), (ra 1, .inl (kS, 4, .inr (.inr (.inr (.inr q_kinds))))), (m0, .inr (11, oX11 ra y160)), (ra 13, .inl (kI, 700, .inl q_tape))] H := hPa
              have hD : va_D A [(ra 2, .inl (kI, 8, .inl q_told)), (ra 3, .inl (kI, 24, .inl (upd q_kind (12 + (q_told 4)).toNatClampNeg r17))), (ra 4, .inl (kI, 24, .inl (upd q_salt (12 + (q_told 4)).toNatClampNeg r147))), (ra 5, .inl (kI, 24, .inl (upd q_pace (12 + (q_told 4)).toNatClampNeg r158))), (ra 6, .inl (kI, 24, .inl (upd q_mute (12 + (q_told 4)).toNatClampNeg 1))), (ra 7, .inl (kI, 24, .inl (upd q_late (12 + (q_told 4)).toNatClampNeg 1))), (ra 1, .inl (kS, 4, .inr (.inr (.inr (.inr q_kinds))))), (m0, .inr (11, oX11 ra y160)), (ra 13, .inl (kI, 700, .inl q_tape))] := hDa
              clear hPa hDa
              refine lv_aload_n hx hb dX11_readRouter_141 rfl (lv_at hl 2 rfl) ?_
              refine va_get (D := (dC, dI)) (ci := 11) (v := .int (y160 8)) (C := RX11) (T := TX11) (N := 61) hx hb hts hin11 hown hK hP 7 rfl rfl 22 (Nat.le_of_ble_eq_true rfl) hw_1 (fun _ h9 => h9) rfl dX11_readRouter_142 ?_
              refine lv_if_ne (tgt := 168) hx hb dX11_readRouter_145 rfl (fun c236 => ?_) (fun c236 => ?_)
              · have b237 : iv 1 5 (y160 8) := iv_neLo c236 (hq161 8 : iv 0 5 (y160 8)) ivk_0 (by decide) (by decide)
                have hrr238 : RRd tT nN y160 (manT tT nN (rtr4 tT nN sS)) := (mq_b hrr168 c236) ▸ hrr168
                refine lv_aload_n hx hb dX11_readRouter_168 rfl (lv_at hl 2 rfl) ?_
                refine va_get (D := (dC, dI)) (ci := 11) (v := .ref (ra 2)) (C := RX11) (T := TX11) (N := 61) hx hb hts hin11 hown hK hP 7 rfl rfl 3 (Nat.le_of_ble_eq_true rfl) hw_0 (fun _ h9 => h9) rfl dX11_readRouter_169 ?_
                refine lv_iconst (v := 4) hx hb dX11_readRouter_172 ic_4 ?_
                refine lv_dup2_11 hx hb dX11_readRouter_173 rfl rfl ?_
                refine va_iald hx hb hK hP 0 1 rfl rfl (vp_in_nI (n := 4) (by decide) (by decide)) dX11_readRouter_174 ?_
                refine W.eq (g2 := F0 m 175 ls [.int (q_told 4), .int 4, .ref (ra 2)]) rfl ?_
                refine lv_iconst (v := 1) hx hb dX11_readRouter_175 ic_1 ?_
                refine lv_iadd hx hb dX11_readRouter_176 ?_
                have b239 : iv 1 12 ((q_told 4) + 1) := iv_add b2 ivk_1 (by decide) (by decide) (by decide) (by decide)
                refine va_iast hx hb hK hP hD hS 0 1 rfl rfl (vp_in_nI (n := 4) (by decide) (by decide)) dX11_readRouter_177 (fun H locs hPa hDa hS => ?_)
                clear hP hD
                have hP : va_P (dC, dI) vwCl [(ra 2, .inl (kI, 8, .inl (upd q_told 4 ((q_told 4) + 1)))), (ra 3, .inl (kI, 24, .inl (upd q_kind (12 + (q_told 4)).toNatClampNeg r17))), (ra 4, .inl (kI, 24, .inl (upd q_salt (12 + (q_told 4)).toNatClampNeg r147))), (ra 5, .inl (kI, 24, .inl (upd q_pace (12 + (q_told 4)).toNatClampNeg r158))), (ra 6, .inl (kI, 24, .inl (upd q_mute (12 + (q_told 4)).toNatClampNeg 1))), (ra 7, .inl (kI, 24, .inl (upd q_late (12 + (q_told 4)).toNatClampNeg 1))), (ra 1, .inl (kS, 4, .inr (.inr (.inr (.inr q_kinds))))), (m0, .inr (11, oX11 ra y160)), (ra 13, .inl (kI, 700, .inl q_tape))] H := hPa
                have hD : va_D A [(ra 2, .inl (kI, 8, .inl (upd q_told 4 ((q_told 4) + 1)))), (ra 3, .inl (kI, 24, .inl (upd q_kind (12 + (q_told 4)).toNatClampNeg r17))), (ra 4, .inl (kI, 24, .inl (upd q_salt (12 + (q_told 4)).toNatClampNeg r147))), (ra 5, .inl (kI, 24, .inl (upd q_pace (12 + (q_told 4)).toNatClampNeg r158))), (ra 6, .inl (kI, 24, .inl (upd q_mute (12 + (q_told 4)).toNatClampNeg 1))), (ra 7, .inl (kI, 24, .inl (upd q_late (12 + (q_told 4)).toNatClampNeg 1))), (ra 1, .inl (kS, 4, .inr (.inr (.inr (.inr q_kinds))))), (m0, .inr (11, oX11 ra y160)), (ra 13, .inl (kI, 700, .inl q_tape))] := hDa
                clear hPa hDa
                have hPD9 := cl_s (wc := [(m0, .inr (11, oX11 ra y160)), (ra 2, .inl (kI, 8, .inl (upd q_told 4 ((q_told 4) + 1)))), (ra 3, .inl (kI, 24, .inl (upd q_kind (12 + (q_told 4)).toNatClampNeg r17))), (ra 4, .inl (kI, 24, .inl (upd q_salt (12 + (q_told 4)).toNatClampNeg r147))), (ra 5, .inl (kI, 24, .inl (upd q_pace (12 + (q_told 4)).toNatClampNeg r158))), (ra 6, .inl (kI, 24, .inl (upd q_mute (12 + (q_told 4)).toNatClampNeg 1))), (ra 7, .inl (kI, 24, .inl (upd q_late (12 + (q_told 4)).toNatClampNeg 1))), (ra 13, .inl (kI, 700, .inl q_tape)), (ra 1, .inl (kS, 4, .inr (.inr (.inr (.inr q_kinds)))))]) hP hD [7, 0, 1, 2, 3, 4, 5, 8, 6] rfl (by decide +kernel)
                have hP9 := hPD9.1
                have hD9 := hPD9.2
                exact W.vret hx hb hr (fun t ht hW => ⟨⟨(), rfl, trivial, y160, upd q_told 4 ((q_told 4) + 1), upd q_kind (12 + (q_told 4)).toNatClampNeg r17, upd q_salt (12 + (q_told 4)).toNatClampNeg r147, upd q_pace (12 + (q_told 4)).toNatClampNeg r158, upd q_mute (12 + (q_told 4)).toNatClampNeg 1, upd q_late (12 + (q_told 4)).toNatClampNeg 1, hq161, (fI_u hq_told (k := 4) ((iv_w b239 (by decide) (by decide)))), (fI_u hq_salt (k := (12 + (q_told 4)).toNatClampNeg) (w148.1)), (show (x0 2).toInt ≤ (y160 2).toInt from by omega), (show y160 3 = x0 3 from hq163.trans (hq152.trans (hq140.trans (hq10)))), (show ∀ j : Nat, (j : Int) < (q_told 1).toInt → (q_from j).toInt < (q_to j).toInt from hLT), (show ∀ j : Nat, (j : Int) < (q_told 5).toInt → (q_from (20 + j)).toInt < (q_to (20 + j)).toInt from hLD), (show RRd tT nN y160 (rtrS tT nN sS (q_told 4)) from it_f (Q := RRd tT nN y160) c1 (hrr238)), fun w => absurd w c236, (show y160 1 = x0 1 from hq165.trans (hq154.trans (hq143.trans (hq13)))), (show y160 10 = x0 10 from hq166.trans (hq155.trans (hq144.trans (hq14)))), (show y160 23 = x0 23 from hq167.trans (hq156.trans (hq145.trans (hq15)))), by rw [ht]; exact hP9, hD9⟩, hS.F ht⟩) hS.2.2 dX11_readRouter_178
              · have b240 : iv 0 0 (y160 8) := iv_eqL c236 ivk_0
                refine lv_aload_n hx hb dX11_readRouter_148 rfl (lv_at hl 2 rfl) ?_
                refine va_get (D := (dC, dI)) (ci := 11) (v := .ref (ra 6)) (C := RX11) (T := TX11) (N := 61) hx hb hts hin11 hown hK hP 7 rfl rfl 7 (Nat.le_of_ble_eq_true rfl) hw_6 (fun _ h9 => h9) rfl dX11_readRouter_149 ?_
                refine lv_iload_n hx hb dX11_readRouter_152 rfl (lv_at hl 1 rfl) ?_
                refine va_iald hx hb hK hP 4 1 rfl rfl (iv_in b16 (by decide) (by decide)) dX11_readRouter_153 ?_
                refine W.eq (g2 := F0 m 154 ls [.int 1]) (by rw [upd_eq]) ?_
                refine lv_aload_n hx hb dX11_readRouter_154 rfl (lv_at hl 2 rfl) ?_
                refine va_get (D := (dC, dI)) (ci := 11) (v := .ref (ra 7)) (C := RX11) (T := TX11) (N := 61) hx hb hts hin11 hown hK hP 7 rfl rfl 8 (Nat.le_of_ble_eq_true rfl) hw_7 (fun _ h9 => h9) rfl dX11_readRouter_155 ?_
                refine lv_iload_n hx hb dX11_readRouter_158 rfl (lv_at hl 1 rfl) ?_
                refine va_iald hx hb hK hP 5 1 rfl rfl (iv_in b16 (by decide) (by decide)) dX11_readRouter_159 ?_
                refine W.eq (g2 := F0 m 160 ls [.int 1, .int 1]) (by rw [upd_eq]) ?_
                refine lv_iadd hx hb dX11_readRouter_160 ?_
                refine lv_topi (fun z241 e242 => ?_)
                obtain rfl : z241 = (2 : Int32) := e242.trans (by decide)
                refine lv_if_le (tgt := 168) hx hb dX11_readRouter_161 rfl (fun c9 => absurd c9 (by decide)) (fun _ => ?_)
                refine lv_aload_n hx hb dX11_readRouter_164 rfl (lv_at hl 2 rfl) ?_
                obtain ⟨hPc, hDc, hFc, hJn⟩ := cl_a (wc := [(m0, .inr (11, oX11 ra y160)), (ra 13, .inl (kI, 700, .inl q_tape))]) (wr := [(ra 2, .inl (kI, 8, .inl q_told)), (ra 3, .inl (kI, 24, .inl (upd q_kind (12 + (q_told 4)).toNatClampNeg r17))), (ra 4, .inl (kI, 24, .inl (upd q_salt (12 + (q_told 4)).toNatClampNeg r147))), (ra 5, .inl (kI, 24, .inl (upd q_pace (12 + (q_told 4)).toNatClampNeg r158))), (ra 6, .inl (kI, 24, .inl (upd q_mute (12 + (q_told 4)).toNatClampNeg 1))), (ra 7, .inl (kI, 24, .inl (upd q_late (12 + (q_told 4)).toNatClampNeg 1))), (ra 1, .inl (kS, 4, .inr (.inr (.inr (.inr q_kinds)))))]) hP hD hS hA [7, 8] [0, 1, 2, 3, 4, 5, 6] rfl rfl (by decide +kernel)
                refine va_callv (va_runV (As := []) (rest := []) ⟨hx, hb, hml, hown, hts⟩ (s11_stepOn l dC dI kB kI kJ kZ kC kS H.size m0 ra y160 q_tape tT nN (nextT tT nN (rtr4 tT nN sS)) (hq161) (hq_tape) (hrr168.2) (stp_of hrr168) (hTQ)) (cwV 0 hts gX11_readRouter_X11_stepOn rfl rfl rfl (by decide +kernel) ⟨Nat.le_of_ble_eq_true rfl, Nat.le_of_ble_eq_true rfl⟩) ⟨fun a U g mk q => by obtain ⟨q0, q1, qP, qE, qD⟩ := q; exact ⟨q0, q1, qP, kE_call qE, qD⟩, va_recv hK hP (ci := 11) (q0 := 7) rfl rfl, fun U hU hW => ⟨rfl, by rw [hU], by rw [hU]; exact hPc, kE_warm hW hE, hDc.weaken (fun _ _ _ _ => trivial)⟩⟩ rfl rfl hl.1 rfl (lv_room (Nat.le_of_ble_eq_true rfl)) dX11_readRouter_165 ⟨Nat.le_of_ble_eq_true rfl, Nat.le_of_ble_eq_true rfl⟩) hS (fun q _ h => hFc q h) hFc (fun u t H locs ht hvm w244 hB hz1 hk1 hS => ?_)
                obtain ⟨y245, hq246, hq247, hq248, hq249, hq250, hq251, hq252, hq253, hP1, hD1⟩ := hB
                try dsimp only at w244
                obtain ⟨hPa, hDa⟩ := hJn (w1 := [(m0, .inr (11, oX11 ra y245)), (ra 13, .inl (kI, 700, .inl q_tape))]) hk1 ht hP1 hD1
                clear hP hD hPc hDc hFc hJn hP1 hD1 hk1
                have hP : va_P (dC, dI) vwCl [(ra 2, .inl (kI, 8, .inl q_told)), (ra 3, .inl (kI, 24, .inl (upd q_kind (12 + (q_told 4)).toNatClampNeg r17))), (ra 4, .inl (kI, 24, .inl (upd q_salt (12 + (q_told 4)).toNatClampNeg r147))), (ra 5, .inl (kI, 24, .inl (upd q_pace (12 + (q_told 4)).toNatClampNeg r158))), (ra 6, .inl (kI, 24, .inl (upd q_mute (12 + (q_told 4)).toNatClampNeg 1))), (ra 7, .inl (kI, 24, .inl (upd q_late (12 + (q_told 4)).toNatClampNeg 1))), (ra 1, .inl (kS, 4, .inr (.inr (.inr (.inr q_kinds))))), (m0, .inr (11, oX11 ra y245)), (ra 13, .inl (kI, 700, .inl q_tape))] H := hPa
                have hD : va_D A [(ra 2, .inl (kI, 8, .inl q_told)), (ra 3, .inl (kI, 24, .inl (upd q_kind (12 + (q_told 4)).toNatClampNeg r17))), (ra 4, .inl (kI, 24, .inl (upd q_salt (12 + (q_told 4)).toNatClampNeg r147))), (ra 5, .inl (kI, 24, .inl (upd q_pace (12 + (q_told 4)).toNatClampNeg r158))), (ra 6, .inl (kI, 24, .inl (upd q_mute (12 + (q_told 4)).toNatClampNeg 1))), (ra 7, .inl (kI, 24, .inl (upd q_late (12 + (q_told 4)).toNatClampNeg 1))), (ra 1, .inl (kS, 4, .inr (.inr (.inr (.inr q_kinds))))), (m0, .inr (11, oX11 ra y245)), (ra 13, .inl (kI, 700, .inl q_tape))] := hDa
                clear hPa hDa
                refine W.widen (k := 0) (n := 0) (Nat.le_of_ble_eq_true rfl) (Nat.le_of_ble_eq_true rfl) ?_
                have hrr254 : RRd tT nN y245 (manT tT nN (rtr4 tT nN sS)) := (mq_s hrr168 c236 (Or.inl c172)) ▸ hq250
                refine lv_aload_n hx hb dX11_readRouter_168 rfl (lv_at hl 2 rfl) ?_
                refine va_get (D := (dC, dI)) (ci := 11) (v := .ref (ra 2)) (C := RX11) (T := TX11) (N := 61) hx hb hts hin11 hown hK hP 7 rfl rfl 3 (Nat.le_of_ble_eq_true rfl) hw_0 (fun _ h9 => h9) rfl dX11_readRouter_169 ?_
                refine lv_iconst (v := 4) hx hb dX11_readRouter_172 ic_4 ?_
                refine lv_dup2_11 hx hb dX11_readRouter_173 rfl rfl ?_
                refine va_iald hx hb hK hP 0 1 rfl rfl (vp_in_nI (n := 4) (by decide) (by decide)) dX11_readRouter_174 ?_
                refine W.eq (g2 := F0 m 175 ls [.int (q_told 4), .int 4, .ref (ra 2)]) rfl ?_
                refine lv_iconst (v := 1) hx hb dX11_readRouter_175 ic_1 ?_
                refine lv_iadd hx hb dX11_readRouter_176 ?_
                have b255 : iv 1 12 ((q_told 4) + 1) := iv_add b2 ivk_1 (by decide) (by decide) (by decide) (by decide)
                refine va_iast hx hb hK hP hD hS 0 1 rfl rfl (vp_in_nI (n := 4) (by decide) (by decide)) dX11_readRouter_177 (fun H locs hPa hDa hS => ?_)
                clear hP hD
                have hP : va_P (dC, dI) vwCl [(ra 2, .inl (kI, 8, .inl (upd q_told 4 ((q_told 4) + 1)))), (ra 3, .inl (kI, 24, .inl (upd q_kind (12 + (q_told 4)).toNatClampNeg r17))), (ra 4, .inl (kI, 24, .inl (upd q_salt (12 + (q_told 4)).toNatClampNeg r147))), (ra 5, .inl (kI, 24, .inl (upd q_pace (12 + (q_told 4)).toNatClampNeg r158))), (ra 6, .inl (kI, 24, .inl (upd q_mute (12 + (q_told 4)).toNatClampNeg 1))), (ra 7, .inl (kI, 24, .inl (upd q_late (12 + (q_told 4)).toNatClampNeg 1))), (ra 1, .inl (kS, 4, .inr (.inr (.inr (.inr q_kinds))))), (m0, .inr (11, oX11 ra y245)), (ra 13, .inl (kI, 700, .inl q_tape))] H := hPa
                have hD : va_D A [(ra 2, .inl (kI, 8, .inl (upd q_told 4 ((q_told 4) + 1)))), (ra 3, .inl (kI, 24, .inl (upd q_kind (12 + (q_told 4)).toNatClampNeg r17))), (ra 4, .inl (kI, 24, .inl (upd q_salt (12 + (q_told 4)).toNatClampNeg r147))), (ra 5, .inl (kI, 24, .inl (upd q_pace (12 + (q_told 4)).toNatClampNeg r158))), (ra 6, .inl (kI, 24, .inl (upd q_mute (12 + (q_told 4)).toNatClampNeg 1))), (ra 7, .inl (kI, 24, .inl (upd q_late (12 + (q_told 4)).toNatClampNeg 1))), (ra 1, .inl (kS, 4, .inr (.inr (.inr (.inr q_kinds))))), (m0, .inr (11, oX11 ra y245)), (ra 13, .inl (kI, 700, .inl q_tape))] := hDa
                clear hPa hDa
                have hPD9 := cl_s (wc := [(m0, .inr (11, oX11 ra y245)), (ra 2, .inl (kI, 8, .inl (upd q_told 4 ((q_told 4) + 1)))), (ra 3, .inl (kI, 24, .inl (upd q_kind (12 + (q_told 4)).toNatClampNeg r17))), (ra 4, .inl (kI, 24, .inl (upd q_salt (12 + (q_told 4)).toNatClampNeg r147))), (ra 5, .inl (kI, 24, .inl (upd q_pace (12 + (q_told 4)).toNatClampNeg r158))), (ra 6, .inl (kI, 24, .inl (upd q_mute (12 + (q_told 4)).toNatClampNeg 1))), (ra 7, .inl (kI, 24, .inl (upd q_late (12 + (q_told 4)).toNatClampNeg 1))), (ra 13, .inl (kI, 700, .inl q_tape)), (ra 1, .inl (kS, 4, .inr (.inr (.inr (.inr q_kinds)))))]) hP hD [7, 0, 1, 2, 3, 4, 5, 8, 6] rfl (by decide +kernel)
                have hP9 := hPD9.1
                have hD9 := hPD9.2
                exact W.vret hx hb hr (fun t ht hW => ⟨⟨(), rfl, trivial, y245, upd q_told 4 ((q_told 4) + 1), upd q_kind (12 + (q_told 4)).toNatClampNeg r17, upd q_salt (12 + (q_told 4)).toNatClampNeg r147, upd q_pace (12 + (q_told 4)).toNatClampNeg r158, upd q_mute (12 + (q_told 4)).toNatClampNeg 1, upd q_late (12 + (q_told 4)).toNatClampNeg 1, hq246, (fI_u hq_told (k := 4) ((iv_w b255 (by decide) (by decide)))), (fI_u hq_salt (k := (12 + (q_told 4)).toNatClampNeg) (w148.1)), (show (x0 2).toInt ≤ (y245 2).toInt from by omega), (show y245 3 = x0 3 from hq248.trans (hq163.trans (hq152.trans (hq140.trans (hq10))))), (show ∀ j : Nat, (j : Int) < (q_told 1).toInt → (q_from j).toInt < (q_to j).toInt from hLT), (show ∀ j : Nat, (j : Int) < (q_told 5).toInt → (q_from (20 + j)).toInt < (q_to (20 + j)).toInt from hLD), (show RRd tT nN y245 (rtrS tT nN sS (q_told 4)) from it_f (Q := RRd tT nN y245) c1 (hrr254)), fun _ => ⟨rfl, congrArg (upd q_kind ((12 + (q_told 4)).toNatClampNeg)) ((kq_y hwk c19).2 (ok_next (ok_num (ok_next (ok_num (ok_next (rr_ok hrr168 c236))))))), congrArg (upd q_salt ((12 + (q_told 4)).toNatClampNeg)) (hv2 (ok_next (ok_num (ok_next (rr_ok hrr168 c236))))), congrArg (upd q_pace ((12 + (q_told 4)).toNatClampNeg)) (hv3 (ok_next (rr_ok hrr168 c236))), congrArg (upd q_mute ((12 + (q_told 4)).toNatClampNeg)) (wS_1 c172), congrArg (upd q_late ((12 + (q_told 4)).toNatClampNeg)) (wS_1 c213)⟩, (show y245 1 = x0 1 from hq251.trans (hq165.trans (hq154.trans (hq143.trans (hq13))))), (show y245 10 = x0 10 from hq252.trans (hq166.trans (hq155.trans (hq144.trans (hq14))))), (show y245 23 = x0 23 from hq253.trans (hq167.trans (hq156.trans (hq145.trans (hq15))))), by rw [ht]; exact hP9, hD9⟩, hS.F ht⟩) hS.2.2 dX11_readRouter_178
      · have b256 : iv (-1) (-1) r17 := iv_eqL c19 ivk_m1
        refine lv_aload_n hx hb dX11_readRouter_52 rfl (lv_at hl 2 rfl) ?_
        refine lv_iconst (v := 1) hx hb dX11_readRouter_53 ic_1 ?_
        obtain ⟨hPc, hDc, hFc, hJn⟩ := cl_a (wc := [(m0, .inr (11, oX11 ra y7))]) (wr := [(ra 2, .inl (kI, 8, .inl q_told)), (ra 3, .inl (kI, 24, .inl q_kind)), (ra 4, .inl (kI, 24, .inl q_salt)), (ra 5, .inl (kI, 24, .inl q_pace)), (ra 6, .inl (kI, 24, .inl q_mute)), (ra 7, .inl (kI, 24, .inl q_late)), (ra 13, .inl (kI, 700, .inl q_tape)), (ra 1, .inl (kS, 4, .inr (.inr (.inr (.inr q_kinds)))))]) hP hD hS hA [6] [0, 1, 2, 3, 4, 5, 7, 8] rfl rfl (by decide +kernel)
        refine va_callv (va_runV (As := [.int 1]) (rest := []) ⟨hx, hb, hml, hown, hts⟩ (s11_wrong l dC dI kB kI kJ kZ kC kS H.size m0 ra y7 1 tT nN (nextT tT nN sS) (hq8) ((iv_w ivk_1 (by decide) (by decide))) (hq12)) (cwV 1 hts gX11_readRouter_X11_wrong rfl rfl rfl (by decide +kernel) ⟨Nat.le_of_ble_eq_true rfl, Nat.le_of_ble_eq_true rfl⟩) ⟨fun a U g mk q => by obtain ⟨q0, q1, qP, qE, qD⟩ := q; exact ⟨q0, q1, qP, kE_call qE, qD⟩, va_recv hK hP (ci := 11) (q0 := 6) rfl rfl, fun U hU hW => ⟨rfl, by rw [hU], by rw [hU]; exact hPc, kE_warm hW hE, hDc.weaken (fun _ _ _ _ => trivial)⟩⟩ rfl rfl hl.1 rfl (lv_room (Nat.le_of_ble_eq_true rfl)) dX11_readRouter_54 ⟨Nat.le_of_ble_eq_true rfl, Nat.le_of_ble_eq_true rfl⟩) hS (fun q _ h => hFc q h) hFc (fun u t H locs ht hvm w258 hB hz1 hk1 hS => ?_)
        obtain ⟨y259, hq260, hq261, hq262, hq263, hq264, hq265, hq266, hq267, hP1, hD1⟩ := hB
        try dsimp only at w258
        obtain ⟨hPa, hDa⟩ := hJn (w1 := [(m0, .inr (11, oX11 ra y259))]) hk1 ht hP1 hD1
        clear hP hD hPc hDc hFc hJn hP1 hD1 hk1
        have hP : va_P (dC, dI) vwCl [(ra 2, .inl (kI, 8, .inl q_told)), (ra 3, .inl (kI, 24, .inl q_kind)), (ra 4, .inl (kI, 24, .inl q_salt)), (ra 5, .inl (kI, 24, .inl q_pace)), (ra 6, .inl (kI, 24, .inl q_mute)), (ra 7, .inl (kI, 24, .inl q_late)), (ra 13, .inl (kI, 700, .inl q_tape)), (ra 1, .inl (kS, 4, .inr (.inr (.inr (.inr q_kinds))))), (m0, .inr (11, oX11 ra y259))] H := hPa
        have hD : va_D A [(ra 2, .inl (kI, 8, .inl q_told)), (ra 3, .inl (kI, 24, .inl q_kind)), (ra 4, .inl (kI, 24, .inl q_salt)), (ra 5, .inl (kI, 24, .inl q_pace)), (ra 6, .inl (kI, 24, .inl q_mute)), (ra 7, .inl (kI, 24, .inl q_late)), (ra 13, .inl (kI, 700, .inl q_tape)), (ra 1, .inl (kS, 4, .inr (.inr (.inr (.inr q_kinds))))), (m0, .inr (11, oX11 ra y259))] := hDa
        clear hPa hDa
        refine W.widen (k := 0) (n := 0) (Nat.le_of_ble_eq_true rfl) (Nat.le_of_ble_eq_true rfl) ?_
        have hrr268 : RRd tT nN y259 (kndT tT (rtr1 tT nN sS)) := (kq_n hwk c19) ▸ hq264
        refine lv_aload_n hx hb dX11_readRouter_57 rfl (lv_at hl 2 rfl) ?_
        refine va_get (D := (dC, dI)) (ci := 11) (v := .int (y259 8)) (C := RX11) (T := TX11) (N := 61) hx hb hts hin11 hown hK hP 8 rfl rfl 22 (Nat.le_of_ble_eq_true rfl) hw_1 (fun _ h9 => h9) rfl dX11_readRouter_58 ?_
        refine lv_if_ne (tgt := 68) hx hb dX11_readRouter_61 rfl (fun _ => ?_) (fun c9 => absurd c9 (iv_ne hq261 ivk_0 (by decide)))
        have hrr269 : RRd tT nN y259 (rtr2 tT nN sS) := rr_stepN hrr268 (iv_ne hq261 ivk_0 (by decide))
        refine lv_aload_n hx hb dX11_readRouter_68 rfl (lv_at hl 2 rfl) ?_
        refine va_get (D := (dC, dI)) (ci := 11) (v := .ref (ra 3)) (C := RX11) (T := TX11) (N := 61) hx hb hts hin11 hown hK hP 8 rfl rfl 4 (Nat.le_of_ble_eq_true rfl) hw_3 (fun _ h9 => h9) rfl dX11_readRouter_69 ?_
        refine lv_iload_n hx hb dX11_readRouter_72 rfl (lv_at hl 1 rfl) ?_
        refine lv_iload_n hx hb dX11_readRouter_73 rfl (lv_at hl 0 rfl) ?_
        refine va_iast hx hb hK hP hD hS 1 1 rfl rfl (iv_in b16 (by decide) (by decide)) dX11_readRouter_74 (fun H locs hPa hDa hS => ?_)
        clear hP hD
        have hP : va_P (dC, dI) vwCl [(ra 2, .inl (kI, 8, .inl q_told)), (ra 3, .inl (kI, 24, .inl (upd q_kind (12 + (q_told 4)).toNatClampNeg r17))), (ra 4, .inl (kI, 24, .inl q_salt)), (ra 5, .inl (kI, 24, .inl q_pace)), (ra 6, .inl (kI, 24, .inl q_mute)), (ra 7, .inl (kI, 24, .inl q_late)), (ra 13, .inl (kI, 700, .inl q_tape)), (ra 1, .inl (kS, 4, .inr (.inr (.inr (.inr q_kinds))))), (m0, .inr (11, oX11 ra y259))] H := hPa
        have hD : va_D A [(ra 2, .inl (kI, 8, .inl q_told)), (ra 3, .inl (kI, 24, .inl (upd q_kind (12 + (q_told 4)).toNatClampNeg r17))), (ra 4, .inl (kI, 24, .inl q_salt)), (ra 5, .inl (kI, 24, .inl q_pace)), (ra 6, .inl (kI, 24, .inl q_mute)), (ra 7, .inl (kI, 24, .inl q_late)), (ra 13, .inl (kI, 700, .inl q_tape)), (ra 1, .inl (kS, 4, .inr (.inr (.inr (.inr q_kinds))))), (m0, .inr (11, oX11 ra y259))] := hDa
        clear hPa hDa
        refine lv_aload_n hx hb dX11_readRouter_75 rfl (lv_at hl 2 rfl) ?_
        refine va_get (D := (dC, dI)) (ci := 11) (v := .ref (ra 4)) (C := RX11) (T := TX11) (N := 61) hx hb hts hin11 hown hK hP 8 rfl rfl 5 (Nat.le_of_ble_eq_true rfl) hw_4 (fun _ h9 => h9) rfl dX11_readRouter_76 ?_
        refine lv_iload_n hx hb dX11_readRouter_79 rfl (lv_at hl 1 rfl) ?_
        refine lv_aload_n hx hb dX11_readRouter_80 rfl (lv_at hl 2 rfl) ?_
        refine lv_iconst (v := 0) hx hb dX11_readRouter_81 ic_0 ?_
        refine lv_bipush (v := 15) hx hb dX11_readRouter_82 bp_15 ?_
        obtain ⟨hPc, hDc, hFc, hJn⟩ := cl_a (wc := [(m0, .inr (11, oX11 ra y259)), (ra 13, .inl (kI, 700, .inl q_tape))]) (wr := [(ra 2, .inl (kI, 8, .inl q_told)), (ra 3, .inl (kI, 24, .inl (upd q_kind (12 + (q_told 4)).toNatClampNeg r17))), (ra 4, .inl (kI, 24, .inl q_salt)), (ra 5, .inl (kI, 24, .inl q_pace)), (ra 6, .inl (kI, 24, .inl q_mute)), (ra 7, .inl (kI, 24, .inl q_late)), (ra 1, .inl (kS, 4, .inr (.inr (.inr (.inr q_kinds)))))]) hP hD hS hA [8, 6] [0, 1, 2, 3, 4, 5, 7] rfl rfl (by decide +kernel)
        refine va_calli (va_runV (As := [.int 0, .int 15]) (rest := [.int (12 + (q_told 4)), .ref (ra 4)]) ⟨hx, hb, hml, hown, hts⟩ (s11_readNumber_0_15 l dC dI kB kI kJ kZ kC kS H.size m0 ra y259 q_tape tT nN (rtr2 tT nN sS) (hq260) (hq_tape) (hrr269) (hTQ)) (cwV 2 hts gX11_readRouter_X11_readNumber rfl rfl rfl (by decide +kernel) ⟨Nat.le_of_ble_eq_true rfl, Nat.le_of_ble_eq_true rfl⟩) ⟨fun a U g mk q => by obtain ⟨q0, q1, qP, qE, qD⟩ := q; exact ⟨q0, q1, qP, kE_call qE, qD⟩, va_recv hK hP (ci := 11) (q0 := 8) rfl rfl, fun U hU hW => ⟨rfl, by rw [hU], by rw [hU]; exact hPc, kE_warm hW hE, hDc.weaken (fun _ _ _ _ => trivial)⟩⟩ rfl rfl hl.1 rfl (lv_room (Nat.le_of_ble_eq_true rfl)) dX11_readRouter_84 ⟨Nat.le_of_ble_eq_true rfl, Nat.le_of_ble_eq_true rfl⟩) hS (fun q _ h => hFc q h) hFc (fun r270 u t H locs ht hvm w271 hB hz1 hk1 hS => ?_)
        obtain ⟨y272, hq273, hq274, hq275, hq276, hq277, hq278, hq279, hP1, hD1⟩ := hB
        try dsimp only at w271
        obtain ⟨hPa, hDa⟩ := hJn (w1 := [(m0, .inr (11, oX11 ra y272)), (ra 13, .inl (kI, 700, .inl q_tape))]) hk1 ht hP1 hD1
        clear hP hD hPc hDc hFc hJn hP1 hD1 hk1
        have hP : va_P (dC, dI) vwCl [(ra 2, .inl (kI, 8, .inl q_told)), (ra 3, .inl (kI, 24, .inl (upd q_kind (12 + (q_told 4)).toNatClampNeg r17))), (ra 4, .inl (kI, 24, .inl q_salt)), (ra 5, .inl (kI, 24, .inl q_pace)), (ra 6, .inl (kI, 24, .inl q_mute)), (ra 7, .inl (kI, 24, .inl q_late)), (ra 1, .inl (kS, 4, .inr (.inr (.inr (.inr q_kinds))))), (m0, .inr (11, oX11 ra y272)), (ra 13, .inl (kI, 700, .inl q_tape))] H := hPa
        have hD : va_D A [(ra 2, .inl (kI, 8, .inl q_told)), (ra 3, .inl (kI, 24, .inl (upd q_kind (12 + (q_told 4)).toNatClampNeg r17))), (ra 4, .inl (kI, 24, .inl q_salt)), (ra 5, .inl (kI, 24, .inl q_pace)), (ra 6, .inl (kI, 24, .inl q_mute)), (ra 7, .inl (kI, 24, .inl q_late)), (ra 1, .inl (kS, 4, .inr (.inr (.inr (.inr q_kinds))))), (m0, .inr (11, oX11 ra y272)), (ra 13, .inl (kI, 700, .inl q_tape))] := hDa
        clear hPa hDa
        refine W.widen (k := 0) (n := 0) (Nat.le_of_ble_eq_true rfl) (Nat.le_of_ble_eq_true rfl) ?_
        have hv2 := w271.2
        refine va_iast hx hb hK hP hD hS 2 1 rfl rfl (iv_in b16 (by decide) (by decide)) dX11_readRouter_87 (fun H locs hPa hDa hS => ?_)
        clear hP hD
        have hP : va_P (dC, dI) vwCl [(ra 2, .inl (kI, 8, .inl q_told)), (ra 3, .inl (kI, 24, .inl (upd q_kind (12 + (q_told 4)).toNatClampNeg r17))), (ra 4, .inl (kI, 24, .inl (upd q_salt (12 + (q_told 4)).toNatClampNeg r270))), (ra 5, .inl (kI, 24, .inl q_pace)), (ra 6, .inl (kI, 24, .inl q_mute)), (ra 7, .inl (kI, 24, .inl q_late)), (ra 1, .inl (kS, 4, .inr (.inr (.inr (.inr q_kinds))))), (m0, .inr (11, oX11 ra y272)), (ra 13, .inl (kI, 700, .inl q_tape))] H := hPa
        have hD : va_D A [(ra 2, .inl (kI, 8, .inl q_told)), (ra 3, .inl (kI, 24, .inl (upd q_kind (12 + (q_told 4)).toNatClampNeg r17))), (ra 4, .inl (kI, 24, .inl (upd q_salt (12 + (q_told 4)).toNatClampNeg r270))), (ra 5, .inl (kI, 24, .inl q_pace)), (ra 6, .inl (kI, 24, .inl q_mute)), (ra 7, .inl (kI, 24, .inl q_late)), (ra 1, .inl (kS, 4, .inr (.inr (.inr (.inr q_kinds))))), (m0, .inr (11, oX11 ra y272)), (ra 13, .inl (kI, 700, .inl q_tape))] := hDa
        clear hPa hDa
        have hrr280 : RRd tT nN y272 (rtr3 tT nN sS) := hq276
        refine lv_aload_n hx hb dX11_readRouter_88 rfl (lv_at hl 2 rfl) ?_
        refine va_get (D := (dC, dI)) (ci := 11) (v := .ref (ra 5)) (C := RX11) (T := TX11) (N := 61) hx hb hts hin11 hown hK hP 7 rfl rfl 6 (Nat.le_of_ble_eq_true rfl) hw_5 (fun _ h9 => h9) rfl dX11_readRouter_89 ?_
        refine lv_iload_n hx hb dX11_readRouter_92 rfl (lv_at hl 1 rfl) ?_
        refine lv_aload_n hx hb dX11_readRouter_93 rfl (lv_at hl 2 rfl) ?_
        refine lv_iconst (v := 1) hx hb dX11_readRouter_94 ic_1 ?_
        refine lv_bipush (v := 60) hx hb dX11_readRouter_95 bp_60 ?_
        obtain ⟨hPc, hDc, hFc, hJn⟩ := cl_a (wc := [(m0, .inr (11, oX11 ra y272)), (ra 13, .inl (kI, 700, .inl q_tape))]) (wr := [(ra 2, .inl (kI, 8, .inl q_told)), (ra 3, .inl (kI, 24, .inl (upd q_kind (12 + (q_told 4)).toNatClampNeg r17))), (ra 4, .inl (kI, 24, .inl (upd q_salt (12 + (q_told 4)).toNatClampNeg r270))), (ra 5, .inl (kI, 24, .inl q_pace)), (ra 6, .inl (kI, 24, .inl q_mute)), (ra 7, .inl (kI, 24, .inl q_late)), (ra 1, .inl (kS, 4, .inr (.inr (.inr (.inr q_kinds)))))]) hP hD hS hA [7, 8] [0, 1, 2, 3, 4, 5, 6] rfl rfl (by decide +kernel)
        refine va_calli (va_runV (As := [.int 1, .int 60]) (rest := [.int (12 + (q_told 4)), .ref (ra 5)]) ⟨hx, hb, hml, hown, hts⟩ (s11_readNumber_1_60 l dC dI kB kI kJ kZ kC kS H.size m0 ra y272 q_tape tT nN (rtr3 tT nN sS) (hq273) (hq_tape) (hrr280) (hTQ)) (cwV 2 hts gX11_readRouter_X11_readNumber rfl rfl rfl (by decide +kernel) ⟨Nat.le_of_ble_eq_true rfl, Nat.le_of_ble_eq_true rfl⟩) ⟨fun a U g mk q => by obtain ⟨q0, q1, qP, qE, qD⟩ := q; exact ⟨q0, q1, qP, kE_call qE, qD⟩, va_recv hK hP (ci := 11) (q0 := 7) rfl rfl, fun U hU hW => ⟨rfl, by rw [hU], by rw [hU]; exact hPc, kE_warm hW hE, hDc.weaken (fun _ _ _ _ => trivial)⟩⟩ rfl rfl hl.1 rfl (lv_room (Nat.le_of_ble_eq_true rfl)) dX11_readRouter_97 ⟨Nat.le_of_ble_eq_true rfl, Nat.le_of_ble_eq_true rfl⟩) hS (fun q _ h => hFc q h) hFc (fun r281 u t H locs ht hvm w282 hB hz1 hk1 hS => ?_)
        obtain ⟨y283, hq284, hq285, hq286, hq287, hq288, hq289, hq290, hP1, hD1⟩ := hB
        try dsimp only at w282
        obtain ⟨hPa, hDa⟩ := hJn (w1 := [(m0, .inr (11, oX11 ra y283)), (ra 13, .inl (kI, 700, .inl q_tape))]) hk1 ht hP1 hD1
        clear hP hD hPc hDc hFc hJn hP1 hD1 hk1
        have hP : va_P (dC, dI) vwCl [(ra 2, .inl (kI, 8, .inl q_told)), (ra 3, .inl (kI, 24, .inl (upd q_kind (12 + (q_told 4)).toNatClampNeg r17))), (ra 4, .inl (kI, 24, .inl (upd q_salt (12 + (q_told 4)).toNatClampNeg r270))), (ra 5, .inl (kI, 24, .inl q_pace)), (ra 6, .inl (kI, 24, .inl q_mute)), (ra 7, .inl (kI, 24, .inl q_late)), (ra 1, .inl (kS, 4, .inr (.inr (.inr (.inr q_kinds))))), (m0, .inr (11, oX11 ra y283)), (ra 13, .inl (kI, 700, .inl q_tape))] H := hPa
        have hD : va_D A [(ra 2, .inl (kI, 8, .inl q_told)), (ra 3, .inl (kI, 24, .inl (upd q_kind (12 + (q_told 4)).toNatClampNeg r17))), (ra 4, .inl (kI, 24, .inl (upd q_salt (12 + (q_told 4)).toNatClampNeg r270))), (ra 5, .inl (kI, 24, .inl q_pace)), (ra 6, .inl (kI, 24, .inl q_mute)), (ra 7, .inl (kI, 24, .inl q_late)), (ra 1, .inl (kS, 4, .inr (.inr (.inr (.inr q_kinds))))), (m0, .inr (11, oX11 ra y283)), (ra 13, .inl (kI, 700, .inl q_tape))] := hDa
        clear hPa hDa
        refine W.widen (k := 0) (n := 0) (Nat.le_of_ble_eq_true rfl) (Nat.le_of_ble_eq_true rfl) ?_
        have hv3 := w282.2
        refine va_iast hx hb hK hP hD hS 3 1 rfl rfl (iv_in b16 (by decide) (by decide)) dX11_readRouter_100 (fun H locs hPa hDa hS => ?_)
        clear hP hD
        have hP : va_P (dC, dI) vwCl [(ra 2, .inl (kI, 8, .inl q_told)), (ra 3, .inl (kI, 24, .inl (upd q_kind (12 + (q_told 4)).toNatClampNeg r17))), (ra 4, .inl (kI, 24, .inl (upd q_salt (12 + (q_told 4)).toNatClampNeg r270))), (ra 5, .inl (kI, 24, .inl (upd q_pace (12 + (q_told 4)).toNatClampNeg r281))), (ra 6, .inl (kI, 24, .inl q_mute)), (ra 7, .inl (kI, 24, .inl q_late)), (ra 1, .inl (kS, 4, .inr (.inr (.inr (.inr q_kinds))))), (m0, .inr (11, oX11 ra y283)), (ra 13, .inl (kI, 700, .inl q_tape))] H := hPa
        have hD : va_D A [(ra 2, .inl (kI, 8, .inl q_told)), (ra 3, .inl (kI, 24, .inl (upd q_kind (12 + (q_told 4)).toNatClampNeg r17))), (ra 4, .inl (kI, 24, .inl (upd q_salt (12 + (q_told 4)).toNatClampNeg r270))), (ra 5, .inl (kI, 24, .inl (upd q_pace (12 + (q_told 4)).toNatClampNeg r281))), (ra 6, .inl (kI, 24, .inl q_mute)), (ra 7, .inl (kI, 24, .inl q_late)), (ra 1, .inl (kS, 4, .inr (.inr (.inr (.inr q_kinds))))), (m0, .inr (11, oX11 ra y283)), (ra 13, .inl (kI, 700, .inl q_tape))] := hDa
        clear hPa hDa
        have hrr291 : RRd tT nN y283 (rtr4 tT nN sS) := hq287
        refine lv_aload_n hx hb dX11_readRouter_101 rfl (lv_at hl 2 rfl) ?_
        refine va_get (D := (dC, dI)) (ci := 11) (v := .ref (ra 6)) (C := RX11) (T := TX11) (N := 61) hx hb hts hin11 hown hK hP 7 rfl rfl 7 (Nat.le_of_ble_eq_true rfl) hw_6 (fun _ h9 => h9) rfl dX11_readRouter_102 ?_
        refine lv_iload_n hx hb dX11_readRouter_105 rfl (lv_at hl 1 rfl) ?_
        refine lv_aload_n hx hb dX11_readRouter_106 rfl (lv_at hl 2 rfl) ?_
        refine va_ldcS hx hb hown hKL.2.2.2.2.2.2.2.2.2.2.2.2.2.2.2.2.2.2.2.2.2.1 dX11_readRouter_107 ?_
        obtain ⟨hPc, hDc, hFc, hJn⟩ := cl_a (wc := [(m0, .inr (11, oX11 ra y283)), (ra 13, .inl (kI, 700, .inl q_tape))]) (wr := [(ra 2, .inl (kI, 8, .inl q_told)), (ra 3, .inl (kI, 24, .inl (upd q_kind (12 + (q_told 4)).toNatClampNeg r17))), (ra 4, .inl (kI, 24, .inl (upd q_salt (12 + (q_told 4)).toNatClampNeg r270))), (ra 5, .inl (kI, 24, .inl (upd q_pace (12 + (q_told 4)).toNatClampNeg r281))), (ra 6, .inl (kI, 24, .inl q_mute)), (ra 7, .inl (kI, 24, .inl q_late)), (ra 1, .inl (kS, 4, .inr (.inr (.inr (.inr q_kinds)))))]) hP hD hS hA [7, 8] [0, 1, 2, 3, 4, 5, 6] rfl rfl (by decide +kernel)
        refine va_calli (va_runV (As := [.ref (adK 8)]) (rest := [.int (12 + (q_told 4)), .ref (ra 6)]) ⟨hx, hb, hml, hown, hts⟩ (s11_is l dC dI kB kI kJ kZ kC kS H.size adK adV m0 ra y283 q_tape 8 tT nN (rtr4 tT nN sS) (hq284) (hq_tape) ((by decide)) (hrr291) (hTQ)) (cwV 1 hts gX11_readRouter_X11_is rfl rfl rfl (by decide +kernel) ⟨Nat.le_of_ble_eq_true rfl, Nat.le_of_ble_eq_true rfl⟩) ⟨fun a U g mk q => by obtain ⟨q0, q1, qP, qE, qD, qL⟩ := q; exact ⟨q0, q1, qP, kE_call qE, qD, kL_call qL⟩, va_recv hK hP (ci := 11) (q0 := 7) rfl rfl, fun U hU hW => ⟨rfl, by rw [hU], by rw [hU]; exact hPc, kE_warm hW hE, hDc.weaken (fun _ _ _ _ => trivial), kL_at hKL hS hFc hW hU⟩⟩ rfl rfl hl.1 rfl (lv_room (Nat.le_of_ble_eq_true rfl)) dX11_readRouter_109 ⟨Nat.le_of_ble_eq_true rfl, Nat.le_of_ble_eq_true rfl⟩) hS (fun q _ h => hFc q h) hFc (fun r292 u t H locs ht hvm w293 hB hz1 hk1 hS => ?_)
        obtain ⟨hP1, hD1⟩ := hB
        try dsimp only at w293
        obtain ⟨hPa, hDa⟩ := hJn (w1 := [(m0, .inr (11, oX11 ra y283)), (ra 13, .inl (kI, 700, .inl q_tape))]) hk1 ht hP1 hD1
        clear hP hD hPc hDc hFc hJn hP1 hD1 hk1
        have hP : va_P (dC, dI) vwCl [(ra 2, .inl (kI, 8, .inl q_told)), (ra 3, .inl (kI, 24, .inl (upd q_kind (12 + (q_told 4)).toNatClampNeg r17))), (ra 4, .inl (kI, 24, .inl (upd q_salt (12 + (q_told 4)).toNatClampNeg r270))), (ra 5, .inl (kI, 24, .inl (upd q_pace (12 + (q_told 4)).toNatClampNeg r281))), (ra 6, .inl (kI, 24, .inl q_mute)), (ra 7, .inl (kI, 24, .inl q_late)), (ra 1, .inl (kS, 4, .inr (.inr (.inr (.inr q_kinds))))), (m0, .inr (11, oX11 ra y283)), (ra 13, .inl (kI, 700, .inl q_tape))] H := hPa
        have hD : va_D A [(ra 2, .inl (kI, 8, .inl q_told)), (ra 3, .inl (kI, 24, .inl (upd q_kind (12 + (q_told 4)).toNatClampNeg r17))), (ra 4, .inl (kI, 24, .inl (upd q_salt (12 + (q_told 4)).toNatClampNeg r270))), (ra 5, .inl (kI, 24, .inl (upd q_pace (12 + (q_told 4)).toNatClampNeg r281))), (ra 6, .inl (kI, 24, .inl q_mute)), (ra 7, .inl (kI, 24, .inl q_late)), (ra 1, .inl (kS, 4, .inr (.inr (.inr (.inr q_kinds))))), (m0, .inr (11, oX11 ra y283)), (ra 13, .inl (kI, 700, .inl q_tape))] := hDa
        clear hPa hDa
        refine W.widen (k := 0) (n := 0) (Nat.le_of_ble_eq_true rfl) (Nat.le_of_ble_eq_true rfl) ?_
        obtain ⟨w293, b294⟩ := w293
        subst w293
        refine lv_if_eq (tgt := 119) hx hb dX11_readRouter_112 rfl (fun c295 => ?_) (fun c295 => ?_)
        · have b296 : iv 0 0 (wS tT 8 (rtr4 tT nN sS)) := iv_eqL c295 ivk_0
          refine lv_iconst (v := 0) hx hb dX11_readRouter_119 ic_0 ?_
          refine va_iast hx hb hK hP hD hS 4 1 rfl rfl (iv_in b16 (by decide) (by decide)) dX11_readRouter_120 (fun H locs hPa hDa hS => ?_)
          clear hP hD
          have hP : va_P (dC, dI) vwCl [(ra 2, .inl (kI, 8, .inl q_told)), (ra 3, .inl (kI, 24, .inl (upd q_kind (12 + (q_told 4)).toNatClampNeg r17))), (ra 4, .inl (kI, 24, .inl (upd q_salt (12 + (q_told 4)).toNatClampNeg r270))), (ra 5, .inl (kI, 24, .inl (upd q_pace (12 + (q_told 4)).toNatClampNeg r281))), (ra 6, .inl (kI, 24, .inl (upd q_mute (12 + (q_told 4)).toNatClampNeg 0))), (ra 7, .inl (kI, 24, .inl q_late)), (ra 1, .inl (kS, 4, .inr (.inr (.inr (.inr q_kinds))))), (m0, .inr (11, oX11 ra y283)), (ra 13, .inl (kI, 700, .inl q_tape))] H := hPa
          have hD : va_D A [(ra 2, .inl (kI, 8, .inl q_told)), (ra 3, .inl (kI, 24, .inl (upd q_kind (12 + (q_told 4)).toNatClampNeg r17))), (ra 4, .inl (kI, 24, .inl (upd q_salt (12 + (q_told 4)).toNatClampNeg r270))), (ra 5, .inl (kI, 24, .inl (upd q_pace (12 + (q_told 4)).toNatClampNeg r281))), (ra 6, .inl (kI, 24, .inl (upd q_mute (12 + (q_told 4)).toNatClampNeg 0))), (ra 7, .inl (kI, 24, .inl q_late)), (ra 1, .inl (kS, 4, .inr (.inr (.inr (.inr q_kinds))))), (m0, .inr (11, oX11 ra y283)), (ra 13, .inl (kI, 700, .inl q_tape))] := hDa
          clear hPa hDa
          refine lv_aload_n hx hb dX11_readRouter_121 rfl (lv_at hl 2 rfl) ?_
          refine va_get (D := (dC, dI)) (ci := 11) (v := .ref (ra 7)) (C := RX11) (T := TX11) (N := 61) hx hb hts hin11 hown hK hP 7 rfl rfl 8 (Nat.le_of_ble_eq_true rfl) hw_7 (fun _ h9 => h9) rfl dX11_readRouter_122 ?_
          refine lv_iload_n hx hb dX11_readRouter_125 rfl (lv_at hl 1 rfl) ?_
          refine lv_aload_n hx hb dX11_readRouter_126 rfl (lv_at hl 2 rfl) ?_
          refine va_ldcS hx hb hown hKL.2.2.2.2.2.2.2.2.2.2.2.2.2.2.2.2.2.2.2.2.2.2 dX11_readRouter_127 ?_
          obtain ⟨hPc, hDc, hFc, hJn⟩ := cl_a (wc := [(m0, .inr (11, oX11 ra y283)), (ra 13, .inl (kI, 700, .inl q_tape))]) (wr := [(ra 2, .inl (kI, 8, .inl q_told)), (ra 3, .inl (kI, 24, .inl (upd q_kind (12 + (q_told 4)).toNatClampNeg r17))), (ra 4, .inl (kI, 24, .inl (upd q_salt (12 + (q_told 4)).toNatClampNeg r270))), (ra 5, .inl (kI, 24, .inl (upd q_pace (12 + (q_told 4)).toNatClampNeg r281))), (ra 6, .inl (kI, 24, .inl (upd q_mute (12 + (q_told 4)).toNatClampNeg 0))), (ra 7, .inl (kI, 24, .inl q_late)), (ra 1, .inl (kS, 4, .inr (.inr (.inr (.inr q_kinds)))))]) hP hD hS hA [7, 8] [0, 1, 2, 3, 4, 5, 6] rfl rfl (by decide +kernel)
          refine va_calli (va_runV (As := [.ref (adK 9)]) (rest := [.int (12 + (q_told 4)), .ref (ra 7)]) ⟨hx, hb, hml, hown, hts⟩ (s11_is l dC dI kB kI kJ kZ kC kS H.size adK adV m0 ra y283 q_tape 9 tT nN (rtr4 tT nN sS) (hq284) (hq_tape) ((by decide)) (hrr291) (hTQ)) (cwV 1 hts gX11_readRouter_X11_is rfl rfl rfl (by decide +kernel) ⟨Nat.le_of_ble_eq_true rfl, Nat.le_of_ble_eq_true rfl⟩) ⟨fun a U g mk q => by obtain ⟨q0, q1, qP, qE, qD, qL⟩ := q; exact ⟨q0, q1, qP, kE_call qE, qD, kL_call qL⟩, va_recv hK hP (ci := 11) (q0 := 7) rfl rfl, fun U hU hW => ⟨rfl, by rw [hU], by rw [hU]; exact hPc, kE_warm hW hE, hDc.weaken (fun _ _ _ _ => trivial), kL_at hKL hS hFc hW hU⟩⟩ rfl rfl hl.1 rfl (lv_room (Nat.le_of_ble_eq_true rfl)) dX11_readRouter_129 ⟨Nat.le_of_ble_eq_true rfl, Nat.le_of_ble_eq_true rfl⟩) hS (fun q _ h => hFc q h) hFc (fun r297 u t H locs ht hvm w298 hB hz1 hk1 hS => ?_)
          obtain ⟨hP1, hD1⟩ := hB
          try dsimp only at w298
          obtain ⟨hPa, hDa⟩ := hJn (w1 := [(m0, .inr (11, oX11 ra y283)), (ra 13, .inl (kI, 700, .inl q_tape))]) hk1 ht hP1 hD1
          clear hP hD hPc hDc hFc hJn hP1 hD1 hk1
          have hP : va_P (dC, dI) vwCl [(ra 2, .inl (kI, 8, .inl q_told)), (ra 3, .inl (kI, 24, .inl (upd q_kind (12 + (q_told 4)).toNatClampNeg r17))), (ra 4, .inl (kI, 24, .inl (upd q_salt (12 + (q_told 4)).toNatClampNeg r270))), (ra 5, .inl (kI, 24, .inl (upd q_pace (12 + (q_told 4)).toNatClampNeg r281))), (ra 6, .inl (kI, 24, .inl (upd q_mute (12 + (q_told 4)).toNatClampNeg 0))), (ra 7, .inl (kI, 24, .inl q_late)), (ra 1, .inl (kS, 4, .inr (.inr (.inr (.inr q_kinds))))), (m0, .inr (11, oX11 ra y283)), (ra 13, .inl (kI, 700, .inl q_tape))] H := hPa
          have hD : va_D A [(ra 2, .inl (kI, 8, .inl q_told)), (ra 3, .inl (kI, 24, .inl (upd q_kind (12 + (q_told 4)).toNatClampNeg r17))), (ra 4, .inl (kI, 24, .inl (upd q_salt (12 + (q_told 4)).toNatClampNeg r270))), (ra 5, .inl (kI, 24, .inl (upd q_pace (12 + (q_told 4)).toNatClampNeg r281))), (ra 6, .inl (kI, 24, .inl (upd q_mute (12 + (q_told 4)).toNatClampNeg 0))), (ra 7, .inl (kI, 24, .inl q_late)), (ra 1, .inl (kS, 4, .inr (.inr (.inr (.inr q_kinds))))), (m0, .inr (11, oX11 ra y283)), (ra 13, .inl (kI, 700, .inl q_tape))] := hDa
          clear hPa hDa
          refine W.widen (k := 0) (n := 0) (Nat.le_of_ble_eq_true rfl) (Nat.le_of_ble_eq_true rfl) ?_
          obtain ⟨w298, b299⟩ := w298
          subst w298
          refine lv_if_eq (tgt := 139) hx hb dX11_readRouter_132 rfl (fun c300 => ?_) (fun c300 => ?_)
          · have b301 : iv 0 0 (wS tT 9 (rtr4 tT nN sS)) := iv_eqL c300 ivk_0
            refine lv_iconst (v := 0) hx hb dX11_readRouter_139 ic_0 ?_
            refine va_iast hx hb hK hP hD hS 5 1 rfl rfl (iv_in b16 (by decide) (by decide)) dX11_readRouter_140 (fun H locs hPa hDa hS => ?_)
            clear hP hD
            have hP : va_P (dC, dI) vwCl [(ra 2, .inl (kI, 8, .inl q_told)), (ra 3, .inl (kI, 24, .inl (upd q_kind (12 + (q_told 4)).toNatClampNeg r17))), (ra 4, .inl (kI, 24, .inl (upd q_salt (12 + (q_told 4)).toNatClampNeg r270))), (ra 5, .inl (kI, 24, .inl (upd q_pace (12 + (q_told 4)).toNatClampNeg r281))), (ra 6, .inl (kI, 24, .inl (upd q_mute (12 + (q_told 4)).toNatClampNeg 0))), (ra 7, .inl (kI, 24, .inl (upd q_late (12 + (q_told 4)).toNatClampNeg 0))), (ra 1, .inl (kS, 4, .inr (.inr (.inr (.inr q_kinds))))), (m0, .inr (11, oX11 ra y283)), (ra 13, .inl (kI, 700, .inl q_tape))] H := hPa
            have hD : va_D A [(ra 2, .inl (kI, 8, .inl q_told)), (ra 3, .inl (kI, 24, .inl (upd q_kind (12 + (q_told 4)).toNatClampNeg r17))), (ra 4, .inl (kI, 24, .inl (upd q_salt (12 + (q_told 4)).toNatClampNeg r270))), (ra 5, .inl (kI, 24, .inl (upd q_pace (12 + (q_told 4)).toNatClampNeg r281))), (ra 6, .inl (kI, 24, .inl (upd q_mute (12 + (q_told 4)).toNatClampNeg 0))), (ra 7, .inl (kI, 24, .inl (upd q_late (12 + (q_told 4)).toNatClampNeg 0))), (ra 1, .inl (kS, 4, .inr (.inr (.inr (.inr q_kinds))))), (m0, .inr (11, oX11 ra y283)), (ra 13, .inl (kI, 700, .inl q_tape))] := hDa
            clear hPa hDa
            refine lv_aload_n hx hb dX11_readRouter_141 rfl (lv_at hl 2 rfl) ?_
            refine va_get (D := (dC, dI)) (ci := 11) (v := .int (y283 8)) (C := RX11) (T := TX11) (N := 61) hx hb hts hin11 hown hK hP 7 rfl rfl 22 (Nat.le_of_ble_eq_true rfl) hw_1 (fun _ h9 => h9) rfl dX11_readRouter_142 ?_
            refine lv_if_ne (tgt := 168) hx hb dX11_readRouter_145 rfl (fun c302 => ?_) (fun c302 => ?_)
            · have b303 : iv 1 5 (y283 8) := iv_neLo c302 (hq284 8 : iv 0 5 (y283 8)) ivk_0 (by decide) (by decide)
              have hrr304 : RRd tT nN y283 (manT tT nN (rtr4 tT nN sS)) := (mq_b hrr291 c302) ▸ hrr291
              refine lv_aload_n hx hb dX11_readRouter_168 rfl (lv_at hl 2 rfl) ?_
              refine va_get (D := (dC, dI)) (ci := 11) (v := .ref (ra 2)) (C := RX11) (T := TX11) (N := 61) hx hb hts hin11 hown hK hP 7 rfl rfl 3 (Nat.le_of_ble_eq_true rfl) hw_0 (fun _ h9 => h9) rfl dX11_readRouter_169 ?_
              refine lv_iconst (v := 4) hx hb dX11_readRouter_172 ic_4 ?_
              refine lv_dup2_11 hx hb dX11_readRouter_173 rfl rfl ?_
              refine va_iald hx hb hK hP 0 1 rfl rfl (vp_in_nI (n := 4) (by decide) (by decide)) dX11_readRouter_174 ?_
              refine W.eq (g2 := F0 m 175 ls [.int (q_told 4), .int 4, .ref (ra 2)]) rfl ?_
              refine lv_iconst (v := 1) hx hb dX11_readRouter_175 ic_1 ?_
              refine lv_iadd hx hb dX11_readRouter_176 ?_
              have b305 : iv 1 12 ((q_told 4) + 1) := iv_add b2 ivk_1 (by decide) (by decide) (by decide) (by decide)
              refine va_iast hx hb hK hP hD hS 0 1 rfl rfl (vp_in_nI (n := 4) (by decide) (by decide)) dX11_readRouter_177 (fun H locs hPa hDa hS => ?_)
              clear hP hD
              have hP : va_P (dC, dI) vwCl [(ra 2, .inl (kI, 8, .inl (upd q_told 4 ((q_told 4) + 1)))), (ra 3, .inl (kI, 24, .inl (upd q_kind (12 + (q_told 4)).toNatClampNeg r17))), (ra 4, .inl (kI, 24, .inl (upd q_salt (12 + (q_told 4)).toNatClampNeg r270))), (ra 5, .inl (kI, 24, .inl (upd q_pace (12 + (q_told 4)).toNatClampNeg r281))), (ra 6, .inl (kI, 24, .inl (upd q_mute (12 + (q_told 4)).toNatClampNeg 0))), (ra 7, .inl (kI, 24, .inl (upd q_late (12 + (q_told 4)).toNatClampNeg 0))), (ra 1, .inl (kS, 4, .inr (.inr (.inr (.inr q_kinds))))), (m0, .inr (11, oX11 ra y283)), (ra 13, .inl (kI, 700, .inl q_tape))] H := hPa
              have hD : va_D A [(ra 2, .inl (kI, 8, .inl (upd q_told 4 ((q_told 4) + 1)))), (ra 3, .inl (kI, 24, .inl (upd q_kind (12 + (q_told 4)).toNatClampNeg r17))), (ra 4, .inl (kI, 24, .inl (upd q_salt (12 + (q_told 4)).toNatClampNeg r270))), (ra 5, .inl (kI, 24, .inl (upd q_pace (12 + (q_told 4)).toNatClampNeg r281))), (ra 6, .inl (kI, 24, .inl (upd q_mute (12 + (q_told 4)).toNatClampNeg 0))), (ra 7, .inl (kI, 24, .inl (upd q_late (12 + (q_told 4)).toNatClampNeg 0))), (ra 1, .inl (kS, 4, .inr (.inr (.inr (.inr q_kinds))))), (m0, .inr (11, oX11 ra y283)), (ra 13, .inl (kI, 700, .inl q_tape))] := hDa
              clear hPa hDa
              have hPD9 := cl_s (wc := [(m0, .inr (11, oX11 ra y283)), (ra 2, .inl (kI, 8, .inl (upd q_told 4 ((q_told 4) + 1)))), (ra 3, .inl (kI, 24, .inl (upd q_kind (12 + (q_told 4)).toNatClampNeg r17))), (ra 4, .inl (kI, 24, .inl (upd q_salt (12 + (q_told 4)).toNatClampNeg r270))), (ra 5, .inl (kI, 24, .inl (upd q_pace (12 + (q_told 4)).toNatClampNeg r281))), (ra 6, .inl (kI, 24, .inl (upd q_mute (12 + (q_told 4)).toNatClampNeg 0))), (ra 7, .inl (kI, 24, .inl (upd q_late (12 + (q_told 4)).toNatClampNeg 0))), (ra 13, .inl (kI, 700, .inl q_tape)), (ra 1, .inl (kS, 4, .inr (.inr (.inr (.inr q_kinds)))))]) hP hD [7, 0, 1, 2, 3, 4, 5, 8, 6] rfl (by decide +kernel)
              have hP9 := hPD9.1
              have hD9 := hPD9.2
              exact W.vret hx hb hr (fun t ht hW => ⟨⟨(), rfl, trivial, y283, upd q_told 4 ((q_told 4) + 1), upd q_kind (12 + (q_told 4)).toNatClampNeg r17, upd q_salt (12 + (q_told 4)).toNatClampNeg r270, upd q_pace (12 + (q_told 4)).toNatClampNeg r281, upd q_mute (12 + (q_told 4)).toNatClampNeg 0, upd q_late (12 + (q_told 4)).toNatClampNeg 0, hq284, (fI_u hq_told (k := 4) ((iv_w b305 (by decide) (by decide)))), (fI_u hq_salt (k := (12 + (q_told 4)).toNatClampNeg) (w271.1)), (show (x0 2).toInt ≤ (y283 2).toInt from by omega), (show y283 3 = x0 3 from hq286.trans (hq275.trans (hq263.trans (hq10)))), (show ∀ j : Nat, (j : Int) < (q_told 1).toInt → (q_from j).toInt < (q_to j).toInt from hLT), (show ∀ j : Nat, (j : Int) < (q_told 5).toInt → (q_from (20 + j)).toInt < (q_to (20 + j)).toInt from hLD), (show RRd tT nN y283 (rtrS tT nN sS (q_told 4)) from it_f (Q := RRd tT nN y283) c1 (hrr304)), fun w => absurd w c302, (show y283 1 = x0 1 from hq288.trans (hq277.trans (hq265.trans (hq13)))), (show y283 10 = x0 10 from hq289.trans (hq278.trans (hq266.trans (hq14)))), (show y283 23 = x0 23 from hq290.trans (hq279.trans (hq267.trans (hq15)))), by rw [ht]; exact hP9, hD9⟩, hS.F ht⟩) hS.2.2 dX11_readRouter_178
            · have b306 : iv 0 0 (y283 8) := iv_eqL c302 ivk_0
              refine lv_aload_n hx hb dX11_readRouter_148 rfl (lv_at hl 2 rfl) ?_
              refine va_get (D := (dC, dI)) (ci := 11) (v := .ref (ra 6)) (C := RX11) (T := TX11) (N := 61) hx hb hts hin11 hown hK hP 7 rfl rfl 7 (Nat.le_of_ble_eq_true rfl) hw_6 (fun _ h9 => h9) rfl dX11_readRouter_149 ?_
              refine lv_iload_n hx hb dX11_readRouter_152 rfl (lv_at hl 1 rfl) ?_
              refine va_iald hx hb hK hP 4 1 rfl rfl (iv_in b16 (by decide) (by decide)) dX11_readRouter_153 ?_
              refine W.eq (g2 := F0 m 154 ls [.int 0]) (by rw [upd_eq]) ?_
              refine lv_aload_n hx hb dX11_readRouter_154 rfl (lv_at hl 2 rfl) ?_
              refine va_get (D := (dC, dI)) (ci := 11) (v := .ref (ra 7)) (C := RX11) (T := TX11) (N := 61) hx hb hts hin11 hown hK hP 7 rfl rfl 8 (Nat.le_of_ble_eq_true rfl) hw_7 (fun _ h9 => h9) rfl dX11_readRouter_155 ?_
              refine lv_iload_n hx hb dX11_readRouter_158 rfl (lv_at hl 1 rfl) ?_
              refine va_iald hx hb hK hP 5 1 rfl rfl (iv_in b16 (by decide) (by decide)) dX11_readRouter_159 ?_
              refine W.eq (g2 := F0 m 160 ls [.int 0, .int 0]) (by rw [upd_eq]) ?_
              refine lv_iadd hx hb dX11_readRouter_160 ?_
              refine lv_topi (fun z307 e308 => ?_)
              obtain rfl : z307 = (0 : Int32) := e308.trans (by decide)
              refine lv_if_le (tgt := 168) hx hb dX11_readRouter_161 rfl (fun _ => ?_) (fun c9 => absurd (by decide) c9)
              have hrr309 : RRd tT nN y283 (manT tT nN (rtr4 tT nN sS)) := (mq_0 hrr291 c302 c295 c300) ▸ hrr291
              refine lv_aload_n hx hb dX11_readRouter_168 rfl (lv_at hl 2 rfl) ?_
              refine va_get (D := (dC, dI)) (ci := 11) (v := .ref (ra 2)) (C := RX11) (T := TX11) (N := 61) hx hb hts hin11 hown hK hP 7 rfl rfl 3 (Nat.le_of_ble_eq_true rfl) hw_0 (fun _ h9 => h9) rfl dX11_readRouter_169 ?_
              refine lv_iconst (v := 4) hx hb dX11_readRouter_172 ic_4 ?_
              refine lv_dup2_11 hx hb dX11_readRouter_173 rfl rfl ?_
              refine va_iald hx hb hK hP 0 1 rfl rfl (vp_in_nI (n := 4) (by decide) (by decide)) dX11_readRouter_174 ?_
              refine W.eq (g2 := F0 m 175 ls [.int (q_told 4), .int 4, .ref (ra 2)]) rfl ?_
              refine lv_iconst (v := 1) hx hb dX11_readRouter_175 ic_1 ?_
              refine lv_iadd hx hb dX11_readRouter_176 ?_
              have b310 : iv 1 12 ((q_told 4) + 1) := iv_add b2 ivk_1 (by decide) (by decide) (by decide) (by decide)
              refine va_iast hx hb hK hP hD hS 0 1 rfl rfl (vp_in_nI (n := 4) (by decide) (by decide)) dX11_readRouter_177 (fun H locs hPa hDa hS => ?_)
              clear hP hD
              have hP : va_P (dC, dI) vwCl [(ra 2, .inl (kI, 8, .inl (upd q_told 4 ((q_told 4) + 1)))), (ra 3, .inl (kI, 24, .inl (upd q_kind (12 + (q_told 4)).toNatClampNeg r17))), (ra 4, .inl (kI, 24, .inl (upd q_salt (12 + (q_told 4)).toNatClampNeg r270))), (ra 5, .inl (kI, 24, .inl (upd q_pace (12 + (q_told 4)).toNatClampNeg r281))), (ra 6, .inl (kI, 24, .inl (upd q_mute (12 + (q_told 4)).toNatClampNeg 0))), (ra 7, .inl (kI, 24, .inl (upd q_late (12 + (q_told 4)).toNatClampNeg 0))), (ra 1, .inl (kS, 4, .inr (.inr (.inr (.inr q_kinds))))), (m0, .inr (11, oX11 ra y283)), (ra 13, .inl (kI, 700, .inl q_tape))] H := hPa
              have hD : va_D A [(ra 2, .inl (kI, 8, .inl (upd q_told 4 ((q_told 4) + 1)))), (ra 3, .inl (kI, 24, .inl (upd q_kind (12 + (q_told 4)).toNatClampNeg r17))), (ra 4, .inl (kI, 24, .inl (upd q_salt (12 + (q_told 4)).toNatClampNeg r270))), (ra 5, .inl (kI, 24, .inl (upd q_pace (12 + (q_told 4)).toNatClampNeg r281))), (ra 6, .inl (kI, 24, .inl (upd q_mute (12 + (q_told 4)).toNatClampNeg 0))), (ra 7, .inl (kI, 24, .inl (upd q_late (12 + (q_told 4)).toNatClampNeg 0))), (ra 1, .inl (kS, 4, .inr (.inr (.inr (.inr q_kinds))))), (m0, .inr (11, oX11 ra y283)), (ra 13, .inl (kI, 700, .inl q_tape))] := hDa
              clear hPa hDa
              have hPD9 := cl_s (wc := [(m0, .inr (11, oX11 ra y283)), (ra 2, .inl (kI, 8, .inl (upd q_told 4 ((q_told 4) + 1)))), (ra 3, .inl (kI, 24, .inl (upd q_kind (12 + (q_told 4)).toNatClampNeg r17))), (ra 4, .inl (kI, 24, .inl (upd q_salt (12 + (q_told 4)).toNatClampNeg r270))), (ra 5, .inl (kI, 24, .inl (upd q_pace (12 + (q_told 4)).toNatClampNeg r281))), (ra 6, .inl (kI, 24, .inl (upd q_mute (12 + (q_told 4)).toNatClampNeg 0))), (ra 7, .inl (kI, 24, .inl (upd q_late (12 + (q_told 4)).toNatClampNeg 0))), (ra 13, .inl (kI, 700, .inl q_tape)), (ra 1, .inl (kS, 4, .inr (.inr (.inr (.inr q_kinds)))))]) hP hD [7, 0, 1, 2, 3, 4, 5, 8, 6] rfl (by decide +kernel)
              have hP9 := hPD9.1
              have hD9 := hPD9.2
              exact W.vret hx hb hr (fun t ht hW => ⟨⟨(), rfl, trivial, y283, upd q_told 4 ((q_told 4) + 1), upd q_kind (12 + (q_told 4)).toNatClampNeg r17, upd q_salt (12 + (q_told 4)).toNatClampNeg r270, upd q_pace (12 + (q_told 4)).toNatClampNeg r281, upd q_mute (12 + (q_told 4)).toNatClampNeg 0, upd q_late (12 + (q_told 4)).toNatClampNeg 0, hq284, (fI_u hq_told (k := 4) ((iv_w b310 (by decide) (by decide)))), (fI_u hq_salt (k := (12 + (q_told 4)).toNatClampNeg) (w271.1)), (show (x0 2).toInt ≤ (y283 2).toInt from by omega), (show y283 3 = x0 3 from hq286.trans (hq275.trans (hq263.trans (hq10)))), (show ∀ j : Nat, (j : Int) < (q_told 1).toInt → (q_from j).toInt < (q_to j).toInt from hLT), (show ∀ j : Nat, (j : Int) < (q_told 5).toInt → (q_from (20 + j)).toInt < (q_to (20 + j)).toInt from hLD), (show RRd tT nN y283 (rtrS tT nN sS (q_told 4)) from it_f (Q := RRd tT nN y283) c1 (hrr309)), fun _ => absurd (ok_next (ok_num (ok_next (ok_num (ok_next (rr_ok hrr291 c302)))))) (fun w => ok_fail ((kq_n hwk c19).symm ▸ w)), (show y283 1 = x0 1 from hq288.trans (hq277.trans (hq265.trans (hq13)))), (show y283 10 = x0 10 from hq289.trans (hq278.trans (hq266.trans (hq14)))), (show y283 23 = x0 23 from hq290.trans (hq279.trans (hq267.trans (hq15)))), by rw [ht]; exact hP9, hD9⟩, hS.F ht⟩) hS.2.2 dX11_readRouter_178
          · have b311 : iv 1 1 (wS tT 9 (rtr4 tT nN sS)) := iv_neLo c300 b299 ivk_0 (by decide) (by decide)
            refine lv_iconst (v := 1) hx hb dX11_readRouter_135 ic_1 ?_
            refine lv_goto (tgt := 140) hx hb dX11_readRouter_136 rfl ?_
            refine va_iast hx hb hK hP hD hS 5 1 rfl rfl (iv_in b16 (by decide) (by decide)) dX11_readRouter_140 (fun H locs hPa hDa hS => ?_)
            clear hP hD
            have hP : va_P (dC, dI) vwCl [(ra 2, .inl (kI, 8, .inl q_told)), (ra 3, .inl (kI, 24, .inl (upd q_kind (12 + (q_told 4)).toNatClampNeg r17))), (ra 4, .inl (kI, 24, .inl (upd q_salt (12 + (q_told 4)).toNatClampNeg r270))), (ra 5, .inl (kI, 24, .inl (upd q_pace (12 + (q_told 4)).toNatClampNeg r281))), (ra 6, .inl (kI, 24, .inl (upd q_mute (12 + (q_told 4)).toNatClampNeg 0))), (ra 7, .inl (kI, 24, .inl (upd q_late (12 + (q_told 4)).toNatClampNeg 1))), (ra 1, .inl (kS, 4, .inr (.inr (.inr (.inr q_kinds))))), (m0, .inr (11, oX11 ra y283)), (ra 13, .inl (kI, 700, .inl q_tape))] H := hPa
            have hD : va_D A [(ra 2, .inl (kI, 8, .inl q_told)), (ra 3, .inl (kI, 24, .inl (upd q_kind (12 + (q_told 4)).toNatClampNeg r17))), (ra 4, .inl (kI, 24, .inl (upd q_salt (12 + (q_told 4)).toNatClampNeg r270))), (ra 5, .inl (kI, 24, .inl (upd q_pace (12 + (q_told 4)).toNatClampNeg r281))), (ra 6, .inl (kI, 24, .inl (upd q_mute (12 + (q_told 4)).toNatClampNeg 0))), (ra 7, .inl (kI, 24, .inl (upd q_late (12 + (q_told 4)).toNatClampNeg 1))), (ra 1, .inl (kS, 4, .inr (.inr (.inr (.inr q_kinds))))), (m0, .inr (11, oX11 ra y283)), (ra 13, .inl (kI, 700, .inl q_tape))] := hDa
            clear hPa hDa
            refine lv_aload_n hx hb dX11_readRouter_141 rfl (lv_at hl 2 rfl) ?_
            refine va_get (D := (dC, dI)) (ci := 11) (v := .int (y283 8)) (C := RX11) (T := TX11) (N := 61) hx hb hts hin11 hown hK hP 7 rfl rfl 22 (Nat.le_of_ble_eq_true rfl) hw_1 (fun _ h9 => h9) rfl dX11_readRouter_142 ?_
            refine lv_if_ne (tgt := 168) hx hb dX11_readRouter_145 rfl (fun c312 => ?_) (fun c312 => ?_)
            · have b313 : iv 1 5 (y283 8) := iv_neLo c312 (hq284 8 : iv 0 5 (y283 8)) ivk_0 (by decide) (by decide)
              have hrr314 : RRd tT nN y283 (manT tT nN (rtr4 tT nN sS)) := (mq_b hrr291 c312) ▸ hrr291
              refine lv_aload_n hx hb dX11_readRouter_168 rfl (lv_at hl 2 rfl) ?_
              refine va_get (D := (dC, dI)) (ci := 11) (v := .ref (ra 2)) (C := RX11) (T := TX11) (N := 61) hx hb hts hin11 hown hK hP 7 rfl rfl 3 (Nat.le_of_ble_eq_true rfl) hw_0 (fun _ h9 => h9) rfl dX11_readRouter_169 ?_
              refine lv_iconst (v := 4) hx hb dX11_readRouter_172 ic_4 ?_
              refine lv_dup2_11 hx hb dX11_readRouter_173 rfl rfl ?_
              refine va_iald hx hb hK hP 0 1 rfl rfl (vp_in_nI (n := 4) (by decide) (by decide)) dX11_readRouter_174 ?_
              refine W.eq (g2 := F0 m 175 ls [.int (q_told 4), .int 4, .ref (ra 2)]) rfl ?_
              refine lv_iconst (v := 1) hx hb dX11_readRouter_175 ic_1 ?_
              refine lv_iadd hx hb dX11_readRouter_176 ?_
              have b315 : iv 1 12 ((q_told 4) + 1) := iv_add b2 ivk_1 (by decide) (by decide) (by decide) (by decide)
              refine va_iast hx hb hK hP hD hS 0 1 rfl rfl (vp_in_nI (n := 4) (by decide) (by decide)) dX11_readRouter_177 (fun H locs hPa hDa hS => ?_)
              clear hP hD
              have hP : va_P (dC, dI) vwCl [(ra 2, .inl (kI, 8, .inl (upd q_told 4 ((q_told 4) + 1)))), (ra 3, .inl (kI, 24, .inl (upd q_kind (12 + (q_told 4)).toNatClampNeg r17))), (ra 4, .inl (kI, 24, .inl (upd q_salt (12 + (q_told 4)).toNatClampNeg r270))), (ra 5, .inl (kI, 24, .inl (upd q_pace (12 + (q_told 4)).toNatClampNeg r281))), (ra 6, .inl (kI, 24, .inl (upd q_mute (12 + (q_told 4)).toNatClampNeg 0))), (ra 7, .inl (kI, 24, .inl (upd q_late (12 + (q_told 4)).toNatClampNeg 1))), (ra 1, .inl (kS, 4, .inr (.inr (.inr (.inr q_kinds))))), (m0, .inr (11, oX11 ra y283)), (ra 13, .inl (kI, 700, .inl q_tape))] H := hPa
              have hD : va_D A [(ra 2, .inl (kI, 8, .inl (upd q_told 4 ((q_told 4) + 1)))), (ra 3, .inl (kI, 24, .inl (upd q_kind (12 + (q_told 4)).toNatClampNeg r17))), (ra 4, .inl (kI, 24, .inl (upd q_salt (12 + (q_told 4)).toNatClampNeg r270))), (ra 5, .inl (kI, 24, .inl (upd q_pace (12 + (q_told 4)).toNatClampNeg r281))), (ra 6, .inl (kI, 24, .inl (upd q_mute (12 + (q_told 4)).toNatClampNeg 0))), (ra 7, .inl (kI, 24, .inl (upd q_late (12 + (q_told 4)).toNatClampNeg 1))), (ra 1, .inl (kS, 4, .inr (.inr (.inr (.inr q_kinds))))), (m0, .inr (11, oX11 ra y283)), (ra 13, .inl (kI, 700, .inl q_tape))] := hDa
              clear hPa hDa
              have hPD9 := cl_s (wc := [(m0, .inr (11, oX11 ra y283)), (ra 2, .inl (kI, 8, .inl (upd q_told 4 ((q_told 4) + 1)))), (ra 3, .inl (kI, 24, .inl (upd q_kind (12 + (q_told 4)).toNatClampNeg r17))), (ra 4, .inl (kI, 24, .inl (upd q_salt (12 + (q_told 4)).toNatClampNeg r270))), (ra 5, .inl (kI, 24, .inl (upd q_pace (12 + (q_told 4)).toNatClampNeg r281))), (ra 6, .inl (kI, 24, .inl (upd q_mute (12 + (q_told 4)).toNatClampNeg 0))), (ra 7, .inl (kI, 24, .inl (upd q_late (12 + (q_told 4)).toNatClampNeg 1))), (ra 13, .inl (kI, 700, .inl q_tape)), (ra 1, .inl (kS, 4, .inr (.inr (.inr (.inr q_kinds)))))]) hP hD [7, 0, 1, 2, 3, 4, 5, 8, 6] rfl (by decide +kernel)
              have hP9 := hPD9.1
              have hD9 := hPD9.2
              exact W.vret hx hb hr (fun t ht hW => ⟨⟨(), rfl, trivial, y283, upd q_told 4 ((q_told 4) + 1), upd q_kind (12 + (q_told 4)).toNatClampNeg r17, upd q_salt (12 + (q_told 4)).toNatClampNeg r270, upd q_pace (12 + (q_told 4)).toNatClampNeg r281, upd q_mute (12 + (q_told 4)).toNatClampNeg 0, upd q_late (12 + (q_told 4)).toNatClampNeg 1, hq284, (fI_u hq_told (k := 4) ((iv_w b315 (by decide) (by decide)))), (fI_u hq_salt (k := (12 + (q_told 4)).toNatClampNeg) (w271.1)), (show (x0 2).toInt ≤ (y283 2).toInt from by omega), (show y283 3 = x0 3 from hq286.trans (hq275.trans (hq263.trans (hq10)))), (show ∀ j : Nat, (j : Int) < (q_told 1).toInt → (q_from j).toInt < (q_to j).toInt from hLT), (show ∀ j : Nat, (j : Int) < (q_told 5).toInt → (q_from (20 + j)).toInt < (q_to (20 + j)).toInt from hLD), (show RRd tT nN y283 (rtrS tT nN sS (q_told 4)) from it_f (Q := RRd tT nN y283) c1 (hrr314)), fun w => absurd w c312, (show y283 1 = x0 1 from hq288.trans (hq277.trans (hq265.trans (hq13)))), (show y283 10 = x0 10 from hq289.trans (hq278.trans (hq266.trans (hq14)))), (show y283 23 = x0 23 from hq290.trans (hq279.trans (hq267.trans (hq15)))), by rw [ht]; exact hP9, hD9⟩, hS.F ht⟩) hS.2.2 dX11_readRouter_178
            · have b316 : iv 0 0 (y283 8) := iv_eqL c312 ivk_0
              refine lv_aload_n hx hb dX11_readRouter_148 rfl (lv_at hl 2 rfl) ?_
              refine va_get (D := (dC, dI)) (ci := 11) (v := .ref (ra 6)) (C := RX11) (T := TX11) (N := 61) hx hb hts hin11 hown hK hP 7 rfl rfl 7 (Nat.le_of_ble_eq_true rfl) hw_6 (fun _ h9 => h9) rfl dX11_readRouter_149 ?_
              refine lv_iload_n hx hb dX11_readRouter_152 rfl (lv_at hl 1 rfl) ?_
              refine va_iald hx hb hK hP 4 1 rfl rfl (iv_in b16 (by decide) (by decide)) dX11_readRouter_153 ?_
              refine W.eq (g2 := F0 m 154 ls [.int 0]) (by rw [upd_eq]) ?_
              refine lv_aload_n hx hb dX11_readRouter_154 rfl (lv_at hl 2 rfl) ?_
              refine va_get (D := (dC, dI)) (ci := 11) (v := .ref (ra 7)) (C := RX11) (T := TX11) (N := 61) hx hb hts hin11 hown hK hP 7 rfl rfl 8 (Nat.le_of_ble_eq_true rfl) hw_7 (fun _ h9 => h9) rfl dX11_readRouter_155 ?_
              refine lv_iload_n hx hb dX11_readRouter_158 rfl (lv_at hl 1 rfl) ?_
              refine va_iald hx hb hK hP 5 1 rfl rfl (iv_in b16 (by decide) (by decide)) dX11_readRouter_159 ?_
              refine W.eq (g2 := F0 m 160 ls [.int 1, .int 0]) (by rw [upd_eq]) ?_
              refine lv_iadd hx hb dX11_readRouter_160 ?_
              refine lv_topi (fun z317 e318 => ?_)
              obtain rfl : z317 = (1 : Int32) := e318.trans (by decide)
              refine lv_if_le (tgt := 168) hx hb dX11_readRouter_161 rfl (fun c9 => absurd c9 (by decide)) (fun _ => ?_)
              refine lv_aload_n hx hb dX11_readRouter_164 rfl (lv_at hl 2 rfl) ?_
              obtain ⟨hPc, hDc, hFc, hJn⟩ := cl_a (wc := [(m0, .inr (11, oX11 ra y283)), (ra 13, .inl (kI, 700, .inl q_tape))]) (wr := [(ra 2, .inl (kI, 8, .inl q_told)), (ra 3, .inl (kI, 24, .inl (upd q_kind (12 + (q_told 4)).toNatClampNeg r17))), (ra 4, .inl (kI, 24, .inl (upd q_salt (12 + (q_told 4)).toNatClampNeg r270))), (ra 5, .inl (kI, 24, .inl (upd q_pace (12 + (q_told 4)).toNatClampNeg r281))), (ra 6, .inl (kI, 24, .inl (upd q_mute (12 + (q_told 4)).toNatClampNeg 0))), (ra 7, .inl (kI, 24, .inl (upd q_late (12 + (q_told 4)).toNatClampNeg 1))), (ra 1, .inl (kS, 4, .inr (.inr (.inr (.inr q_kinds)))))]) hP hD hS hA [7, 8] [0, 1, 2, 3, 4, 5, 6] rfl rfl (by decide +kernel)
              refine va_callv (va_runV (As := []) (rest := []) ⟨hx, hb, hml, hown, hts⟩ (s11_stepOn l dC dI kB kI kJ kZ kC kS H.size m0 ra y283 q_tape tT nN (nextT tT nN (rtr4 tT nN sS)) (hq284) (hq_tape) (hrr291.2) (stp_of hrr291) (hTQ)) (cwV 0 hts gX11_readRouter_X11_stepOn rfl rfl rfl (by decide +kernel) ⟨Nat.le_of_ble_eq_true rfl, Nat.le_of_ble_eq_true rfl⟩) ⟨fun a U g mk q => by obtain ⟨q0, q1, qP, qE, qD⟩ := q; exact ⟨q0, q1, qP, kE_call qE, qD⟩, va_recv hK hP (ci := 11) (q0 := 7) rfl rfl, fun U hU hW => ⟨rfl, by rw [hU], by rw [hU]; exact hPc, kE_warm hW hE, hDc.weaken (fun _ _ _ _ => trivial)⟩⟩ rfl rfl hl.1 rfl (lv_room (Nat.le_of_ble_eq_true rfl)) dX11_readRouter_165 ⟨Nat.le_of_ble_eq_true rfl, Nat.le_of_ble_eq_true rfl⟩) hS (fun q _ h => hFc q h) hFc (fun u t H locs ht hvm w320 hB hz1 hk1 hS => ?_)
              obtain ⟨y321, hq322, hq323, hq324, hq325, hq326, hq327, hq328, hq329, hP1, hD1⟩ := hB
              try dsimp only at w320
              obtain ⟨hPa, hDa⟩ := hJn (w1 := [(m0, .inr (11, oX11 ra y321)), (ra 13, .inl (kI, 700, .inl q_tape))]) hk1 ht hP1 hD1
              clear hP hD hPc hDc hFc hJn hP1 hD1 hk1
              have hP : va_P (dC, dI) vwCl [(ra 2, .inl (kI, 8, .inl q_told)), (ra 3, .inl (kI, 24, .inl (upd q_kind (12 + (q_told 4)).toNatClampNeg r17))), (ra 4, .inl (kI, 24, .inl (upd q_salt (12 + (q_told 4)).toNatClampNeg r270))), (ra 5, .inl (kI, 24, .inl (upd q_pace (12 + (q_told 4)).toNatClampNeg r281))), (ra 6, .inl (kI, 24, .inl (upd q_mute (12 + (q_told 4)).toNatClampNeg 0))), (ra 7, .inl (kI, 24, .inl (upd q_late (12 + (q_told 4)).toNatClampNeg 1))), (ra 1, .inl (kS, 4, .inr (.inr (.inr (.inr q_kinds))))), (m0, .inr (11, oX11 ra y321)), (ra 13, .inl (kI, 700, .inl q_tape))] H := hPa
              have hD : va_D A [(ra 2, .inl (kI, 8, .inl q_told)), (ra 3, .inl (kI, 24, .inl (upd q_kind (12 + (q_told 4)).toNatClampNeg r17))), (ra 4, .inl (kI, 24, .inl (upd q_salt (12 + (q_told 4)).toNatClampNeg r270))), (ra 5, .inl (kI, 24, .inl (upd q_pace (12 + (q_told 4)).toNatClampNeg r281))), (ra 6, .inl (kI, 24, .inl (upd q_mute (12 + (q_told 4)).toNatClampNeg 0))), (ra 7, .inl (kI, 24, .inl (upd q_late (12 + (q_told 4)).toNatClampNeg 1))), (ra 1, .inl (kS, 4, .inr (.inr (.inr (.inr q_kinds))))), (m0, .inr (11, oX11 ra y321)), (ra 13, .inl (kI, 700, .inl q_tape))] := hDa
              clear hPa hDa
              refine W.widen (k := 0) (n := 0) (Nat.le_of_ble_eq_true rfl) (Nat.le_of_ble_eq_true rfl) ?_
              have hrr330 : RRd tT nN y321 (manT tT nN (rtr4 tT nN sS)) := (mq_s hrr291 c312 (Or.inr c300)) ▸ hq326
              refine lv_aload_n hx hb dX11_readRouter_168 rfl (lv_at hl 2 rfl) ?_
              refine va_get (D := (dC, dI)) (ci := 11) (v := .ref (ra 2)) (C := RX11) (T := TX11) (N := 61) hx hb hts hin11 hown hK hP 7 rfl rfl 3 (Nat.le_of_ble_eq_true rfl) hw_0 (fun _ h9 => h9) rfl dX11_readRouter_169 ?_
              refine lv_iconst (v := 4) hx hb dX11_readRouter_172 ic_4 ?_
              refine lv_dup2_11 hx hb dX11_readRouter_173 rfl rfl ?_
              refine va_iald hx hb hK hP 0 1 rfl rfl (vp_in_nI (n := 4) (by decide) (by decide)) dX11_readRouter_174 ?_
              refine W.eq (g2 := F0 m 175 ls [.int (q_told 4), .int 4, .ref (ra 2)]) rfl ?_
              refine lv_iconst (v := 1) hx hb dX11_readRouter_175 ic_1 ?_
              refine lv_iadd hx hb dX11_readRouter_176 ?_
              have b331 : iv 1 12 ((q_told 4) + 1) := iv_add b2 ivk_1 (by decide) (by decide) (by decide) (by decide)
              refine va_iast hx hb hK hP hD hS 0 1 rfl rfl (vp_in_nI (n := 4) (by decide) (by decide)) dX11_readRouter_177 (fun H locs hPa hDa hS => ?_)
              clear hP hD
              have hP : va_P (dC, dI) vwCl [(ra 2, .inl (kI, 8, .inl (upd q_told 4 ((q_told 4) + 1)))), (ra 3, .inl (kI, 24, .inl (upd q_kind (12 + (q_told 4)).toNatClampNeg r17))), (ra 4, .inl (kI, 24, .inl (upd q_salt (12 + (q_told 4)).toNatClampNeg r270))), (ra 5, .inl (kI, 24, .inl (upd q_pace (12 + (q_told 4)).toNatClampNeg r281))), (ra 6, .inl (kI, 24, .inl (upd q_mute (12 + (q_told 4)).toNatClampNeg 0))), (ra 7, .inl (kI, 24, .inl (upd q_late (12 + (q_told 4)).toNatClampNeg 1))), (ra 1, .inl (kS, 4, .inr (.inr (.inr (.inr q_kinds))))), (m0, .inr (11, oX11 ra y321)), (ra 13, .inl (kI, 700, .inl q_tape))] H := hPa
              have hD : va_D A [(ra 2, .inl (kI, 8, .inl (upd q_told 4 ((q_told 4) + 1)))), (ra 3, .inl (kI, 24, .inl (upd q_kind (12 + (q_told 4)).toNatClampNeg r17))), (ra 4, .inl (kI, 24, .inl (upd q_salt (12 + (q_told 4)).toNatClampNeg r270))), (ra 5, .inl (kI, 24, .inl (upd q_pace (12 + (q_told 4)).toNatClampNeg r281))), (ra 6, .inl (kI, 24, .inl (upd q_mute (12 + (q_told 4)).toNatClampNeg 0))), (ra 7, .inl (kI, 24, .inl (upd q_late (12 + (q_told 4)).toNatClampNeg 1))), (ra 1, .inl (kS, 4, .inr (.inr (.inr (.inr q_kinds))))), (m0, .inr (11, oX11 ra y321)), (ra 13, .inl (kI, 700, .inl q_tape))] := hDa
              clear hPa hDa
              have hPD9 := cl_s (wc := [(m0, .inr (11, oX11 ra y321)), (ra 2, .inl (kI, 8, .inl (upd q_told 4 ((q_told 4) + 1)))), (ra 3, .inl (kI, 24, .inl (upd q_kind (12 + (q_told 4)).toNatClampNeg r17))), (ra 4, .inl (kI, 24, .inl (upd q_salt (12 + (q_told 4)).toNatClampNeg r270))), (ra 5, .inl (kI, 24, .inl (upd q_pace (12 + (q_told 4)).toNatClampNeg r281))), (ra 6, .inl (kI, 24, .inl (upd q_mute (12 + (q_told 4)).toNatClampNeg 0))), (ra 7, .inl (kI, 24, .inl (upd q_late (12 + (q_told 4)).toNatClampNeg 1))), (ra 13, .inl (kI, 700, .inl q_tape)), (ra 1, .inl (kS, 4, .inr (.inr (.inr (.inr q_kinds)))))]) hP hD [7, 0, 1, 2, 3, 4, 5, 8, 6] rfl (by decide +kernel)
              have hP9 := hPD9.1
              have hD9 := hPD9.2
              exact W.vret hx hb hr (fun t ht hW => ⟨⟨(), rfl, trivial, y321, upd q_told 4 ((q_told 4) + 1), upd q_kind (12 + (q_told 4)).toNatClampNeg r17, upd q_salt (12 + (q_told 4)).toNatClampNeg r270, upd q_pace (12 + (q_told 4)).toNatClampNeg r281, upd q_mute (12 + (q_told 4)).toNatClampNeg 0, upd q_late (12 + (q_told 4)).toNatClampNeg 1, hq322, (fI_u hq_told (k := 4) ((iv_w b331 (by decide) (by decide)))), (fI_u hq_salt (k := (12 + (q_told 4)).toNatClampNeg) (w271.1)), (show (x0 2).toInt ≤ (y321 2).toInt from by omega), (show y321 3 = x0 3 from hq324.trans (hq286.trans (hq275.trans (hq263.trans (hq10))))), (show ∀ j : Nat, (j : Int) < (q_told 1).toInt → (q_from j).toInt < (q_to j).toInt from hLT), (show ∀ j : Nat, (j : Int) < (q_told 5).toInt → (q_from (20 + j)).toInt < (q_to (20 + j)).toInt from hLD), (show RRd tT nN y321 (rtrS tT nN sS (q_told 4)) from it_f (Q := RRd tT nN y321) c1 (hrr330)), fun _ => absurd (ok_next (ok_num (ok_next (ok_num (ok_next (rr_ok hrr291 c312)))))) (fun w => ok_fail ((kq_n hwk c19).symm ▸ w)), (show y321 1 = x0 1 from hq327.trans (hq288.trans (hq277.trans (hq265.trans (hq13))))), (show y321 10 = x0 10 from hq328.trans (hq289.trans (hq278.trans (hq266.trans (hq14))))), (show y321 23 = x0 23 from hq329.trans (hq290.trans (hq279.trans (hq267.trans (hq15))))), by rw [ht]; exact hP9, hD9⟩, hS.F ht⟩) hS.2.2 dX11_readRouter_178
        · have b332 : iv 1 1 (wS tT 8 (rtr4 tT nN sS)) := iv_neLo c295 b294 ivk_0 (by decide) (by decide)
          refine lv_iconst (v := 1) hx hb dX11_readRouter_115 ic_1 ?_
          refine lv_goto (tgt := 120) hx hb dX11_readRouter_116 rfl ?_
          refine va_iast hx hb hK hP hD hS 4 1 rfl rfl (iv_in b16 (by decide) (by decide)) dX11_readRouter_120 (fun H locs hPa hDa hS => ?_)
          clear hP hD
          have hP : va_P (dC, dI) vwCl [(ra 2, .inl (kI, 8, .inl q_told)), (ra 3, .inl (kI, 24, .inl (upd q_kind (12 + (q_told 4)).toNatClampNeg r17))), (ra 4, .inl (kI, 24, .inl (upd q_salt (12 + (q_told 4)).toNatClampNeg r270))), (ra 5, .inl (kI, 24, .inl (upd q_pace (12 + (q_told 4)).toNatClampNeg r281))), (ra 6, .inl (kI, 24, .inl (upd q_mute (12 + (q_told 4)).toNatClampNeg 1))), (ra 7, .inl (kI, 24, .inl q_late)), (ra 1, .inl (kS, 4, .inr (.inr (.inr (.inr q_kinds))))), (m0, .inr (11, oX11 ra y283)), (ra 13, .inl (kI, 700, .inl q_tape))] H := hPa
          have hD : va_D A [(ra 2, .inl (kI, 8, .inl q_told)), (ra 3, .inl (kI, 24, .inl (upd q_kind (12 + (q_told 4)).toNatClampNeg r17))), (ra 4, .inl (kI, 24, .inl (upd q_salt (12 + (q_told 4)).toNatClampNeg r270))), (ra 5, .inl (kI, 24, .inl (upd q_pace (12 + (q_told 4)).toNatClampNeg r281))), (ra 6, .inl (kI, 24, .inl (upd q_mute (12 + (q_told 4)).toNatClampNeg 1))), (ra 7, .inl (kI, 24, .inl q_late)), (ra 1, .inl (kS, 4, .inr (.inr (.inr (.inr q_kinds))))), (m0, .inr (11, oX11 ra y283)), (ra 13, .inl (kI, 700, .inl q_tape))] := hDa
          clear hPa hDa
          refine lv_aload_n hx hb dX11_readRouter_121 rfl (lv_at hl 2 rfl) ?_
          refine va_get (D := (dC, dI)) (ci := 11) (v := .ref (ra 7)) (C := RX11) (T := TX11) (N := 61) hx hb hts hin11 hown hK hP 7 rfl rfl 8 (Nat.le_of_ble_eq_true rfl) hw_7 (fun _ h9 => h9) rfl dX11_readRouter_122 ?_
          refine lv_iload_n hx hb dX11_readRouter_125 rfl (lv_at hl 1 rfl) ?_
          refine lv_aload_n hx hb dX11_readRouter_126 rfl (lv_at hl 2 rfl) ?_
          refine va_ldcS hx hb hown hKL.2.2.2.2.2.2.2.2.2.2.2.2.2.2.2.2.2.2.2.2.2.2 dX11_readRouter_127 ?_
          obtain ⟨hPc, hDc, hFc, hJn⟩ := cl_a (wc := [(m0, .inr (11, oX11 ra y283)), (ra 13, .inl (kI, 700, .inl q_tape))]) (wr := [(ra 2, .inl (kI, 8, .inl q_told)), (ra 3, .inl (kI, 24, .inl (upd q_kind (12 + (q_told 4)).toNatClampNeg r17))), (ra 4, .inl (kI, 24, .inl (upd q_salt (12 + (q_told 4)).toNatClampNeg r270))), (ra 5, .inl (kI, 24, .inl (upd q_pace (12 + (q_told 4)).toNatClampNeg r281))), (ra 6, .inl (kI, 24, .inl (upd q_mute (12 + (q_told 4)).toNatClampNeg 1))), (ra 7, .inl (kI, 24, .inl q_late)), (ra 1, .inl (kS, 4, .inr (.inr (.inr (.inr q_kinds)))))]) hP hD hS hA [7, 8] [0, 1, 2, 3, 4, 5, 6] rfl rfl (by decide +kernel)
          refine va_calli (va_runV (As := [.ref (adK 9)]) (rest := [.int (12 + (q_told 4)), .ref (ra 7)]) ⟨hx, hb, hml, hown, hts⟩ (s11_is l dC dI kB kI kJ kZ kC kS H.size adK adV m0 ra y283 q_tape 9 tT nN (rtr4 tT nN sS) (hq284) (hq_tape) ((by decide)) (hrr291) (hTQ)) (cwV 1 hts gX11_readRouter_X11_is rfl rfl rfl (by decide +kernel) ⟨Nat.le_of_ble_eq_true rfl, Nat.le_of_ble_eq_true rfl⟩) ⟨fun a U g mk q => by obtain ⟨q0, q1, qP, qE, qD, qL⟩ := q; exact ⟨q0, q1, qP, kE_call qE, qD, kL_call qL⟩, va_recv hK hP (ci := 11) (q0 := 7) rfl rfl, fun U hU hW => ⟨rfl, by rw [hU], by rw [hU]; exact hPc, kE_warm hW hE, hDc.weaken (fun _ _ _ _ => trivial), kL_at hKL hS hFc hW hU⟩⟩ rfl rfl hl.1 rfl (lv_room (Nat.le_of_ble_eq_true rfl)) dX11_readRouter_129 ⟨Nat.le_of_ble_eq_true rfl, Nat.le_of_ble_eq_true rfl⟩) hS (fun q _ h => hFc q h) hFc (fun r333 u t H locs ht hvm w334 hB hz1 hk1 hS => ?_)
          obtain ⟨hP1, hD1⟩ := hB
          try dsimp only at w334
          obtain ⟨hPa, hDa⟩ := hJn (w1 := [(m0, .inr (11, oX11 ra y283)), (ra 13, .inl (kI, 700, .inl q_tape))]) hk1 ht hP1 hD1
          clear hP hD hPc hDc hFc hJn hP1 hD1 hk1
          have hP : va_P (dC, dI) vwCl [(ra 2, .inl (kI, 8, .inl q_told)), (ra 3, .inl (kI, 24, .inl (upd q_kind (12 + (q_told 4)).toNatClampNeg r17))), (ra 4, .inl (kI, 24, .inl (upd q_salt (12 + (q_told 4)).toNatClampNeg r270))), (ra 5, .inl (kI, 24, .inl (upd q_pace (12 + (q_told 4)).toNatClampNeg r281))), (ra 6, .inl (kI, 24, .inl (upd q_mute (12 + (q_told 4)).toNatClampNeg 1))), (ra 7, .inl (kI, 24, .inl q_late)), (ra 1, .inl (kS, 4, .inr (.inr (.inr (.inr q_kinds))))), (m0, .inr (11, oX11 ra y283)), (ra 13, .inl (kI, 700, .inl q_tape))] H := hPa
          have hD : va_D A [(ra 2, .inl (kI, 8, .inl q_told)), (ra 3, .inl (kI, 24, .inl (upd q_kind (12 + (q_told 4)).toNatClampNeg r17))), (ra 4, .inl (kI, 24, .inl (upd q_salt (12 + (q_told 4)).toNatClampNeg r270))), (ra 5, .inl (kI, 24, .inl (upd q_pace (12 + (q_told 4)).toNatClampNeg r281))), (ra 6, .inl (kI, 24, .inl (upd q_mute (12 + (q_told 4)).toNatClampNeg 1))), (ra 7, .inl (kI, 24, .inl q_late)), (ra 1, .inl (kS, 4, .inr (.inr (.inr (.inr q_kinds))))), (m0, .inr (11, oX11 ra y283)), (ra 13, .inl (kI, 700, .inl q_tape))] := hDa
          clear hPa hDa
          refine W.widen (k := 0) (n := 0) (Nat.le_of_ble_eq_true rfl) (Nat.le_of_ble_eq_true rfl) ?_
          obtain ⟨w334, b335⟩ := w334
          subst w334
          refine lv_if_eq (tgt := 139) hx hb dX11_readRouter_132 rfl (fun c336 => ?_) (fun c336 => ?_)
          · have b337 : iv 0 0 (wS tT 9 (rtr4 tT nN sS)) := iv_eqL c336 ivk_0
            refine lv_iconst (v := 0) hx hb dX11_readRouter_139 ic_0 ?_
            refine va_iast hx hb hK hP hD hS 5 1 rfl rfl (iv_in b16 (by decide) (by decide)) dX11_readRouter_140 (fun H locs hPa hDa hS => ?_)
            clear hP hD
            have hP : va_P (dC, dI) vwCl [(ra 2, .inl (kI, 8, .inl q_told)), (ra 3, .inl (kI, 24, .inl (upd q_kind (12 + (q_told 4)).toNatClampNeg r17))), (ra 4, .inl (kI, 24, .inl (upd q_salt (12 + (q_told 4)).toNatClampNeg r270))), (ra 5, .inl (kI, 24, .inl (upd q_pace (12 + (q_told 4)).toNatClampNeg r281))), (ra 6, .inl (kI, 24, .inl (upd q_mute (12 + (q_told 4)).toNatClampNeg 1))), (ra 7, .inl (kI, 24, .inl (upd q_late (12 + (q_told 4)).toNatClampNeg 0))), (ra 1, .inl (kS, 4, .inr (.inr (.inr (.inr q_kinds))))), (m0, .inr (11, oX11 ra y283)), (ra 13, .inl (kI, 700, .inl q_tape))] H := hPa
            have hD : va_D A [(ra 2, .inl (kI, 8, .inl q_told)), (ra 3, .inl (kI, 24, .inl (upd q_kind (12 + (q_told 4)).toNatClampNeg r17))), (ra 4, .inl (kI, 24, .inl (upd q_salt (12 + (q_told 4)).toNatClampNeg r270))), (ra 5, .inl (kI, 24, .inl (upd q_pace (12 + (q_told 4)).toNatClampNeg r281))), (ra 6, .inl (kI, 24, .inl (upd q_mute (12 + (q_told 4)).toNatClampNeg 1))), (ra 7, .inl (kI, 24, .inl (upd q_late (12 + (q_told 4)).toNatClampNeg 0))), (ra 1, .inl (kS, 4, .inr (.inr (.inr (.inr q_kinds))))), (m0, .inr (11, oX11 ra y283)), (ra 13, .inl (kI, 700, .inl q_tape))] := hDa
            clear hPa hDa
            refine lv_aload_n hx hb dX11_readRouter_141 rfl (lv_at hl 2 rfl) ?_
            refine va_get (D := (dC, dI)) (ci := 11) (v := .int (y283 8)) (C := RX11) (T := TX11) (N := 61) hx hb hts hin11 hown hK hP 7 rfl rfl 22 (Nat.le_of_ble_eq_true rfl) hw_1 (fun _ h9 => h9) rfl dX11_readRouter_142 ?_
            refine lv_if_ne (tgt := 168) hx hb dX11_readRouter_145 rfl (fun c338 => ?_) (fun c338 => ?_)
            · have b339 : iv 1 5 (y283 8) := iv_neLo c338 (hq284 8 : iv 0 5 (y283 8)) ivk_0 (by decide) (by decide)
              have hrr340 : RRd tT nN y283 (manT tT nN (rtr4 tT nN sS)) := (mq_b hrr291 c338) ▸ hrr291
              refine lv_aload_n hx hb dX11_readRouter_168 rfl (lv_at hl 2 rfl) ?_
              refine va_get (D := (dC, dI)) (ci := 11) (v := .ref (ra 2)) (C := RX11) (T := TX11) (N := 61) hx hb hts hin11 hown hK hP 7 rfl rfl 3 (Nat.le_of_ble_eq_true rfl) hw_0 (fun _ h9 => h9) rfl dX11_readRouter_169 ?_
              refine lv_iconst (v := 4) hx hb dX11_readRouter_172 ic_4 ?_
              refine lv_dup2_11 hx hb dX11_readRouter_173 rfl rfl ?_
              refine va_iald hx hb hK hP 0 1 rfl rfl (vp_in_nI (n := 4) (by decide) (by decide)) dX11_readRouter_174 ?_
              refine W.eq (g2 := F0 m 175 ls [.int (q_told 4), .int 4, .ref (ra 2)]) rfl ?_
              refine lv_iconst (v := 1) hx hb dX11_readRouter_175 ic_1 ?_
              refine lv_iadd hx hb dX11_readRouter_176 ?_
              have b341 : iv 1 12 ((q_told 4) + 1) := iv_add b2 ivk_1 (by decide) (by decide) (by decide) (by decide)
              refine va_iast hx hb hK hP hD hS 0 1 rfl rfl (vp_in_nI (n := 4) (by decide) (by decide)) dX11_readRouter_177 (fun H locs hPa hDa hS => ?_)
              clear hP hD
              have hP : va_P (dC, dI) vwCl [(ra 2, .inl (kI, 8, .inl (upd q_told 4 ((q_told 4) + 1)))), (ra 3, .inl (kI, 24, .inl (upd q_kind (12 + (q_told 4)).toNatClampNeg r17))), (ra 4, .inl (kI, 24, .inl (upd q_salt (12 + (q_told 4)).toNatClampNeg r270))), (ra 5, .inl (kI, 24, .inl (upd q_pace (12 + (q_told 4)).toNatClampNeg r281))), (ra 6, .inl (kI, 24, .inl (upd q_mute (12 + (q_told 4)).toNatClampNeg 1))), (ra 7, .inl (kI, 24, .inl (upd q_late (12 + (q_told 4)).toNatClampNeg 0))), (ra 1, .inl (kS, 4, .inr (.inr (.inr (.inr q_kinds))))), (m0, .inr (11, oX11 ra y283)), (ra 13, .inl (kI, 700, .inl q_tape))] H := hPa
              have hD : va_D A [(ra 2, .inl (kI, 8, .inl (upd q_told 4 ((q_told 4) + 1)))), (ra 3, .inl (kI, 24, .inl (upd q_kind (12 + (q_told 4)).toNatClampNeg r17))), (ra 4, .inl (kI, 24, .inl (upd q_salt (12 + (q_told 4)).toNatClampNeg r270))), (ra 5, .inl (kI, 24, .inl (upd q_pace (12 + (q_told 4)).toNatClampNeg r281))), (ra 6, .inl (kI, 24, .inl (upd q_mute (12 + (q_told 4)).toNatClampNeg 1))), (ra 7, .inl (kI, 24, .inl (upd q_late (12 + (q_told 4)).toNatClampNeg 0))), (ra 1, .inl (kS, 4, .inr (.inr (.inr (.inr q_kinds))))), (m0, .inr (11, oX11 ra y283)), (ra 13, .inl (kI, 700, .inl q_tape))] := hDa
              clear hPa hDa
              have hPD9 := cl_s (wc := [(m0, .inr (11, oX11 ra y283)), (ra 2, .inl (kI, 8, .inl (upd q_told 4 ((q_told 4) + 1)))), (ra 3, .inl (kI, 24, .inl (upd q_kind (12 + (q_told 4)).toNatClampNeg r17))), (ra 4, .inl (kI, 24, .inl (upd q_salt (12 + (q_told 4)).toNatClampNeg r270))), (ra 5, .inl (kI, 24, .inl (upd q_pace (12 + (q_told 4)).toNatClampNeg r281))), (ra 6, .inl (kI, 24, .inl (upd q_mute (12 + (q_told 4)).toNatClampNeg 1))), (ra 7, .inl (kI, 24, .inl (upd q_late (12 + (q_told 4)).toNatClampNeg 0))), (ra 13, .inl (kI, 700, .inl q_tape)), (ra 1, .inl (kS, 4, .inr (.inr (.inr (.inr q_kinds)))))]) hP hD [7, 0, 1, 2, 3, 4, 5, 8, 6] rfl (by decide +kernel)
              have hP9 := hPD9.1
              have hD9 := hPD9.2
              exact W.vret hx hb hr (fun t ht hW => ⟨⟨(), rfl, trivial, y283, upd q_told 4 ((q_told 4) + 1), upd q_kind (12 + (q_told 4)).toNatClampNeg r17, upd q_salt (12 + (q_told 4)).toNatClampNeg r270, upd q_pace (12 + (q_told 4)).toNatClampNeg r281, upd q_mute (12 + (q_told 4)).toNatClampNeg 1, upd q_late (12 + (q_told 4)).toNatClampNeg 0, hq284, (fI_u hq_told (k := 4) ((iv_w b341 (by decide) (by decide)))), (fI_u hq_salt (k := (12 + (q_told 4)).toNatClampNeg) (w271.1)), (show (x0 2).toInt ≤ (y283 2).toInt from by omega), (show y283 3 = x0 3 from hq286.trans (hq275.trans (hq263.trans (hq10)))), (show ∀ j : Nat, (j : Int) < (q_told 1).toInt → (q_from j).toInt < (q_to j).toInt from hLT), (show ∀ j : Nat, (j : Int) < (q_told 5).toInt → (q_from (20 + j)).toInt < (q_to (20 + j)).toInt from hLD), (show RRd tT nN y283 (rtrS tT nN sS (q_told 4)) from it_f (Q := RRd tT nN y283) c1 (hrr340)), fun w => absurd w c338, (show y283 1 = x0 1 from hq288.trans (hq277.trans (hq265.trans (hq13)))), (show y283 10 = x0 10 from hq289.trans (hq278.trans (hq266.trans (hq14)))), (show y283 23 = x0 23 from hq290.trans (hq279.trans (hq267.trans (hq15)))), by rw [ht]; exact hP9, hD9⟩, hS.F ht⟩) hS.2.2 dX11_readRouter_178
            · have b342 : iv 0 0 (y283 8) := iv_eqL c338 ivk_0
              refine lv_aload_n hx hb dX11_readRouter_148 rfl (lv_at hl 2 rfl) ?_
              refine va_get (D := (dC, dI)) (ci := 11) (v := .ref (ra 6)) (C := RX11) (T := TX11) (N := 61) hx hb hts hin11 hown hK hP 7 rfl rfl 7 (Nat.le_of_ble_eq_true rfl) hw_6 (fun _ h9 => h9) rfl dX11_readRouter_149 ?_
              refine lv_iload_n hx hb dX11_readRouter_152 rfl (lv_at hl 1 rfl) ?_
              refine va_iald hx hb hK hP 4 1 rfl rfl (iv_in b16 (by decide) (by decide)) dX11_readRouter_153 ?_
              refine W.eq (g2 := F0 m 154 ls [.int 1]) (by rw [upd_eq]) ?_
              refine lv_aload_n hx hb dX11_readRouter_154 rfl (lv_at hl 2 rfl) ?_
              refine va_get (D := (dC, dI)) (ci := 11) (v := .ref (ra 7)) (C := RX11) (T := TX11) (N := 61) hx hb hts hin11 hown hK hP 7 rfl rfl 8 (Nat.le_of_ble_eq_true rfl) hw_7 (fun _ h9 => h9) rfl dX11_readRouter_155 ?_
              refine lv_iload_n hx hb dX11_readRouter_158 rfl (lv_at hl 1 rfl) ?_
              refine va_iald hx hb hK hP 5 1 rfl rfl (iv_in b16 (by decide) (by decide)) dX11_readRouter_159 ?_
              refine W.eq (g2 := F0 m 160 ls [.int 0, .int 1]) (by rw [upd_eq]) ?_
              refine lv_iadd hx hb dX11_readRouter_160 ?_
              refine lv_topi (fun z343 e344 => ?_)
              obtain rfl : z343 = (1 : Int32) := e344.trans (by decide)
              refine lv_if_le (tgt := 168) hx hb dX11_readRouter_161 rfl (fun c9 => absurd c9 (by decide)) (fun _ => ?_)
              refine lv_aload_n hx hb dX11_readRouter_164 rfl (lv_at hl 2 rfl) ?_
              obtain ⟨hPc, hDc, hFc, hJn⟩ := cl_a (wc := [(m0, .inr (11, oX11 ra y283)), (ra 13, .inl (kI, 700, .inl q_tape))]) (wr := [(ra 2, .inl (kI, 8, .inl q_told)), (ra 3, .inl (kI, 24, .inl (upd q_kind (12 + (q_told 4)).toNatClampNeg r17))), (ra 4, .inl (kI, 24, .inl (upd q_salt (12 + (q_told 4)).toNatClampNeg r270))), (ra 5, .inl (kI, 24, .inl (upd q_pace (12 + (q_told 4)).toNatClampNeg r281))), (ra 6, .inl (kI, 24, .inl (upd q_mute (12 + (q_told 4)).toNatClampNeg 1))), (ra 7, .inl (kI, 24, .inl (upd q_late (12 + (q_told 4)).toNatClampNeg 0))), (ra 1, .inl (kS, 4, .inr (.inr (.inr (.inr q_kinds)))))]) hP hD hS hA [7, 8] [0, 1, 2, 3, 4, 5, 6] rfl rfl (by decide +kernel)
              refine va_callv (va_runV (As := []) (rest := []) ⟨hx, hb, hml, hown, hts⟩ (s11_stepOn l dC dI kB kI kJ kZ kC kS H.size m0 ra y283 q_tape tT nN (nextT tT nN (rtr4 tT nN sS)) (hq284) (hq_tape) (hrr291.2) (stp_of hrr291) (hTQ)) (cwV 0 hts gX11_readRouter_X11_stepOn rfl rfl rfl (by decide +kernel) ⟨Nat.le_of_ble_eq_true rfl, Nat.le_of_ble_eq_true rfl⟩) ⟨fun a U g mk q => by obtain ⟨q0, q1, qP, qE, qD⟩ := q; exact ⟨q0, q1, qP, kE_call qE, qD⟩, va_recv hK hP (ci := 11) (q0 := 7) rfl rfl, fun U hU hW => ⟨rfl, by rw [hU], by rw [hU]; exact hPc, kE_warm hW hE, hDc.weaken (fun _ _ _ _ => trivial)⟩⟩ rfl rfl hl.1 rfl (lv_room (Nat.le_of_ble_eq_true rfl)) dX11_readRouter_165 ⟨Nat.le_of_ble_eq_true rfl, Nat.le_of_ble_eq_true rfl⟩) hS (fun q _ h => hFc q h) hFc (fun u t H locs ht hvm w346 hB hz1 hk1 hS => ?_)
              obtain ⟨y347, hq348, hq349, hq350, hq351, hq352, hq353, hq354, hq355, hP1, hD1⟩ := hB
              try dsimp only at w346
              obtain ⟨hPa, hDa⟩ := hJn (w1 := [(m0, .inr (11, oX11 ra y347)), (ra 13, .inl (kI, 700, .inl q_tape))]) hk1 ht hP1 hD1
              clear hP hD hPc hDc hFc hJn hP1 hD1 hk1
              have hP : va_P (dC, dI) vwCl [(ra 2, .inl (kI, 8, .inl q_told)), (ra 3, .inl (kI, 24, .inl (upd q_kind (12 + (q_told 4)).toNatClampNeg r17))), (ra 4, .inl (kI, 24, .inl (upd q_salt (12 + (q_told 4)).toNatClampNeg r270))), (ra 5, .inl (kI, 24, .inl (upd q_pace (12 + (q_told 4)).toNatClampNeg r281))), (ra 6, .inl (kI, 24, .inl (upd q_mute (12 + (q_told 4)).toNatClampNeg 1))), (ra 7, .inl (kI, 24, .inl (upd q_late (12 + (q_told 4)).toNatClampNeg 0))), (ra 1, .inl (kS, 4, .inr (.inr (.inr (.inr q_kinds))))), (m0, .inr (11, oX11 ra y347)), (ra 13, .inl (kI, 700, .inl q_tape))] H := hPa
              have hD : va_D A [(ra 2, .inl (kI, 8, .inl q_told)), (ra 3, .inl (kI, 24, .inl (upd q_kind (12 + (q_told 4)).toNatClampNeg r17))), (ra 4, .inl (kI, 24, .inl (upd q_salt (12 + (q_told 4)).toNatClampNeg r270))), (ra 5, .inl (kI, 24, .inl (upd q_pace (12 + (q_told 4)).toNatClampNeg r281))), (ra 6, .inl (kI, 24, .inl (upd q_mute (12 + (q_told 4)).toNatClampNeg 1))), (ra 7, .inl (kI, 24, .inl (upd q_late (12 + (q_told 4)).toNatClampNeg 0))), (ra 1, .inl (kS, 4, .inr (.inr (.inr (.inr q_kinds))))), (m0, .inr (11, oX11 ra y347)), (ra 13, .inl (kI, 700, .inl q_tape))] := hDa
              clear hPa hDa
              refine W.widen (k := 0) (n := 0) (Nat.le_of_ble_eq_true rfl) (Nat.le_of_ble_eq_true rfl) ?_
              have hrr356 : RRd tT nN y347 (manT tT nN (rtr4 tT nN sS)) := (mq_s hrr291 c338 (Or.inl c295)) ▸ hq352
              refine lv_aload_n hx hb dX11_readRouter_168 rfl (lv_at hl 2 rfl) ?_
              refine va_get (D := (dC, dI)) (ci := 11) (v := .ref (ra 2)) (C := RX11) (T := TX11) (N := 61) hx hb hts hin11 hown hK hP 7 rfl rfl 3 (Nat.le_of_ble_eq_true rfl) hw_0 (fun _ h9 => h9) rfl dX11_readRouter_169 ?_
              refine lv_iconst (v := 4) hx hb dX11_readRouter_172 ic_4 ?_
              refine lv_dup2_11 hx hb dX11_readRouter_173 rfl rfl ?_
              refine va_iald hx hb hK hP 0 1 rfl rfl (vp_in_nI (n := 4) (by decide) (by decide)) dX11_readRouter_174 ?_
              refine W.eq (g2 := F0 m 175 ls [.int (q_told 4), .int 4, .ref (ra 2)]) rfl ?_
              refine lv_iconst (v := 1) hx hb dX11_readRouter_175 ic_1 ?_
              refine lv_iadd hx hb dX11_readRouter_176 ?_
              have b357 : iv 1 12 ((q_told 4) + 1) := iv_add b2 ivk_1 (by decide) (by decide) (by decide) (by decide)
              refine va_iast hx hb hK hP hD hS 0 1 rfl rfl (vp_in_nI (n := 4) (by decide) (by decide)) dX11_readRouter_177 (fun H locs hPa hDa hS => ?_)
              clear hP hD
              have hP : va_P (dC, dI) vwCl [(ra 2, .inl (kI, 8, .inl (upd q_told 4 ((q_told 4) + 1)))), (ra 3, .inl (kI, 24, .inl (upd q_kind (12 + (q_told 4)).toNatClampNeg r17))), (ra 4, .inl (kI, 24, .inl (upd q_salt (12 + (q_told 4)).toNatClampNeg r270))), (ra 5, .inl (kI, 24, .inl (upd q_pace (12 + (q_told 4)).toNatClampNeg r281))), (ra 6, .inl (kI, 24, .inl (upd q_mute (12 + (q_told 4)).toNatClampNeg 1))), (ra 7, .inl (kI, 24, .inl (upd q_late (12 + (q_told 4)).toNatClampNeg 0))), (ra 1, .inl (kS, 4, .inr (.inr (.inr (.inr q_kinds))))), (m0, .inr (11, oX11 ra y347)), (ra 13, .inl (kI, 700, .inl q_tape))] H := hPa
              have hD : va_D A [(ra 2, .inl (kI, 8, .inl (upd q_told 4 ((q_told 4) + 1)))), (ra 3, .inl (kI, 24, .inl (upd q_kind (12 + (q_told 4)).toNatClampNeg r17))), (ra 4, .inl (kI, 24, .inl (upd q_salt (12 + (q_told 4)).toNatClampNeg r270))), (ra 5, .inl (kI, 24, .inl (upd q_pace (12 + (q_told 4)).toNatClampNeg r281))), (ra 6, .inl (kI, 24, .inl (upd q_mute (12 + (q_told 4)).toNatClampNeg 1))), (ra 7, .inl (kI, 24, .inl (upd q_late (12 + (q_told 4)).toNatClampNeg 0))), (ra 1, .inl (kS, 4, .inr (.inr (.inr (.inr q_kinds))))), (m0, .inr (11, oX11 ra y347)), (ra 13, .inl (kI, 700, .inl q_tape))] := hDa
              clear hPa hDa
              have hPD9 := cl_s (wc := [(m0, .inr (11, oX11 ra y347)), (ra 2, .inl (kI, 8, .inl (upd q_told 4 ((q_told 4) + 1)))), (ra 3, .inl (kI, 24, .inl (upd q_kind (12 + (q_told 4)).toNatClampNeg r17))), (ra 4, .inl (kI, 24, .inl (upd q_salt (12 + (q_told 4)).toNatClampNeg r270))), (ra 5, .inl (kI, 24, .inl (upd q_pace (12 + (q_told 4)).toNatClampNeg r281))), (ra 6, .inl (kI, 24, .inl (upd q_mute (12 + (q_told 4)).toNatClampNeg 1))), (ra 7, .inl (kI, 24, .inl (upd q_late (12 + (q_told 4)).toNatClampNeg 0))), (ra 13, .inl (kI, 700, .inl q_tape)), (ra 1, .inl (kS, 4, .inr (.inr (.inr (.inr q_kinds)))))]) hP hD [7, 0, 1, 2, 3, 4, 5, 8, 6] rfl (by decide +kernel)
              have hP9 := hPD9.1
              have hD9 := hPD9.2
              exact W.vret hx hb hr (fun t ht hW => ⟨⟨(), rfl, trivial, y347, upd q_told 4 ((q_told 4) + 1), upd q_kind (12 + (q_told 4)).toNatClampNeg r17, upd q_salt (12 + (q_told 4)).toNatClampNeg r270, upd q_pace (12 + (q_told 4)).toNatClampNeg r281, upd q_mute (12 + (q_told 4)).toNatClampNeg 1, upd q_late (12 + (q_told 4)).toNatClampNeg 0, hq348, (fI_u hq_told (k := 4) ((iv_w b357 (by decide) (by decide)))), (fI_u hq_salt (k := (12 + (q_told 4)).toNatClampNeg) (w271.1)), (show (x0 2).toInt ≤ (y347 2).toInt from by omega), (show y347 3 = x0 3 from hq350.trans (hq286.trans (hq275.trans (hq263.trans (hq10))))), (show ∀ j : Nat, (j : Int) < (q_told 1).toInt → (q_from j).toInt < (q_to j).toInt from hLT), (show ∀ j : Nat, (j : Int) < (q_told 5).toInt → (q_from (20 + j)).toInt < (q_to (20 + j)).toInt from hLD), (show RRd tT nN y347 (rtrS tT nN sS (q_told 4)) from it_f (Q := RRd tT nN y347) c1 (hrr356)), fun _ => absurd (ok_next (ok_num (ok_next (ok_num (ok_next (rr_ok hrr291 c338)))))) (fun w => ok_fail ((kq_n hwk c19).symm ▸ w)), (show y347 1 = x0 1 from hq353.trans (hq288.trans (hq277.trans (hq265.trans (hq13))))), (show y347 10 = x0 10 from hq354.trans (hq289.trans (hq278.trans (hq266.trans (hq14))))), (show y347 23 = x0 23 from hq355.trans (hq290.trans (hq279.trans (hq267.trans (hq15))))), by rw [ht]; exact hP9, hD9⟩, hS.F ht⟩) hS.2.2 dX11_readRouter_178
          · have b358 : iv 1 1 (wS tT 9 (rtr4 tT nN sS)) := iv_neLo c336 b335 ivk_0 (by decide) (by decide)
            refine lv_iconst (v := 1) hx hb dX11_readRouter_135 ic_1 ?_
            refine lv_goto (tgt := 140) hx hb dX11_readRouter_136 rfl ?_
            refine va_iast hx hb hK hP hD hS 5 1 rfl rfl (iv_in b16 (by decide) (by decide)) dX11_readRouter_140 (fun H locs hPa hDa hS => ?_)
            clear hP hD
            have hP : va_P (dC, dI) vwCl [(ra 2, .inl (kI, 8, .inl q_told)), (ra 3, .inl (kI, 24, .inl (upd q_kind (12 + (q_told 4)).toNatClampNeg r17))), (ra 4, .inl (kI, 24, .inl (upd q_salt (12 + (q_told 4)).toNatClampNeg r270))), (ra 5, .inl (kI, 24, .inl (upd q_pace (12 + (q_told 4)).toNatClampNeg r281))), (ra 6, .inl (kI, 24, .inl (upd q_mute (12 + (q_told 4)).toNatClampNeg 1))), (ra 7, .inl (kI, 24, .inl (upd q_late (12 + (q_told 4)).toNatClampNeg 1))), (ra 1, .inl (kS, 4, .inr (.inr (.inr (.inr q_kinds))))), (m0, .inr (11, oX11 ra y283)), (ra 13, .inl (kI, 700, .inl q_tape))] H := hPa
            have hD : va_D A [(ra 2, .inl (kI, 8, .inl q_told)), (ra 3, .inl (kI, 24, .inl (upd q_kind (12 + (q_told 4)).toNatClampNeg r17))), (ra 4, .inl (kI, 24, .inl (upd q_salt (12 + (q_told 4)).toNatClampNeg r270))), (ra 5, .inl (kI, 24, .inl (upd q_pace (12 + (q_told 4)).toNatClampNeg r281))), (ra 6, .inl (kI, 24, .inl (upd q_mute (12 + (q_told 4)).toNatClampNeg 1))), (ra 7, .inl (kI, 24, .inl (upd q_late (12 + (q_told 4)).toNatClampNeg 1))), (ra 1, .inl (kS, 4, .inr (.inr (.inr (.inr q_kinds))))), (m0, .inr (11, oX11 ra y283)), (ra 13, .inl (kI, 700, .inl q_tape))] := hDa
            clear hPa hDa
            refine lv_aload_n hx hb dX11_readRouter_141 rfl (lv_at hl 2 rfl) ?_
            refine va_get (D := (dC, dI)) (ci := 11) (v := .int (y283 8)) (C := RX11) (T := TX11) (N := 61) hx hb hts hin11 hown hK hP 7 rfl rfl 22 (Nat.le_of_ble_eq_true rfl) hw_1 (fun _ h9 => h9) rfl dX11_readRouter_142 ?_
            refine lv_if_ne (tgt := 168) hx hb dX11_readRouter_145 rfl (fun c359 => ?_) (fun c359 => ?_)
            · have b360 : iv 1 5 (y283 8) := iv_neLo c359 (hq284 8 : iv 0 5 (y283 8)) ivk_0 (by decide) (by decide)
              have hrr361 : RRd tT nN y283 (manT tT nN (rtr4 tT nN sS)) := (mq_b hrr291 c359) ▸ hrr291
              refine lv_aload_n hx hb dX11_readRouter_168 rfl (lv_at hl 2 rfl) ?_
              refine va_get (D := (dC, dI)) (ci := 11) (v := .ref (ra 2)) (C := RX11) (T := TX11) (N := 61) hx hb hts hin11 hown hK hP 7 rfl rfl 3 (Nat.le_of_ble_eq_true rfl) hw_0 (fun _ h9 => h9) rfl dX11_readRouter_169 ?_
              refine lv_iconst (v := 4) hx hb dX11_readRouter_172 ic_4 ?_
              refine lv_dup2_11 hx hb dX11_readRouter_173 rfl rfl ?_
              refine va_iald hx hb hK hP 0 1 rfl rfl (vp_in_nI (n := 4) (by decide) (by decide)) dX11_readRouter_174 ?_
              refine W.eq (g2 := F0 m 175 ls [.int (q_told 4), .int 4, .ref (ra 2)]) rfl ?_
              refine lv_iconst (v := 1) hx hb dX11_readRouter_175 ic_1 ?_
              refine lv_iadd hx hb dX11_readRouter_176 ?_
              have b362 : iv 1 12 ((q_told 4) + 1) := iv_add b2 ivk_1 (by decide) (by decide) (by decide) (by decide)
              refine va_iast hx hb hK hP hD hS 0 1 rfl rfl (vp_in_nI (n := 4) (by decide) (by decide)) dX11_readRouter_177 (fun H locs hPa hDa hS => ?_)
              clear hP hD
              have hP : va_P (dC, dI) vwCl [(ra 2, .inl (kI, 8, .inl (upd q_told 4 ((q_told 4) + 1)))), (ra 3, .inl (kI, 24, .inl (upd q_kind (12 + (q_told 4)).toNatClampNeg r17))), (ra 4, .inl (kI, 24, .inl (upd q_salt (12 + (q_told 4)).toNatClampNeg r270))), (ra 5, .inl (kI, 24, .inl (upd q_pace (12 + (q_told 4)).toNatClampNeg r281))), (ra 6, .inl (kI, 24, .inl (upd q_mute (12 + (q_told 4)).toNatClampNeg 1))), (ra 7, .inl (kI, 24, .inl (upd q_late (12 + (q_told 4)).toNatClampNeg 1))), (ra 1, .inl (kS, 4, .inr (.inr (.inr (.inr q_kinds))))), (m0, .inr (11, oX11 ra y283)), (ra 13, .inl (kI, 700, .inl q_tape))] H := hPa
              have hD : va_D A [(ra 2, .inl (kI, 8, .inl (upd q_told 4 ((q_told 4) + 1)))), (ra 3, .inl (kI, 24, .inl (upd q_kind (12 + (q_told 4)).toNatClampNeg r17))), (ra 4, .inl (kI, 24, .inl (upd q_salt (12 + (q_told 4)).toNatClampNeg r270))), (ra 5, .inl (kI, 24, .inl (upd q_pace (12 + (q_told 4)).toNatClampNeg r281))), (ra 6, .inl (kI, 24, .inl (upd q_mute (12 + (q_told 4)).toNatClampNeg 1))), (ra 7, .inl (kI, 24, .inl (upd q_late (12 + (q_told 4)).toNatClampNeg 1))), (ra 1, .inl (kS, 4, .inr (.inr (.inr (.inr q_kinds))))), (m0, .inr (11, oX11 ra y283)), (ra 13, .inl (kI, 700, .inl q_tape))] := hDa
              clear hPa hDa
              have hPD9 := cl_s (wc := [(m0, .inr (11, oX11 ra y283)), (ra 2, .inl (kI, 8, .inl (upd q_told 4 ((q_told 4) + 1)))), (ra 3, .inl (kI, 24, .inl (upd q_kind (12 + (q_told 4)).toNatClampNeg r17))), (ra 4, .inl (kI, 24, .inl (upd q_salt (12 + (q_told 4)).toNatClampNeg r270))), (ra 5, .inl (kI, 24, .inl (upd q_pace (12 + (q_told 4)).toNatClampNeg r281))), (ra 6, .inl (kI, 24, .inl (upd q_mute (12 + (q_told 4)).toNatClampNeg 1))), (ra 7, .inl (kI, 24, .inl (upd q_late (12 + (q_told 4)).toNatClampNeg 1))), (ra 13, .inl (kI, 700, .inl q_tape)), (ra 1, .inl (kS, 4, .inr (.inr (.inr (.inr q_kinds)))))]) hP hD [7, 0, 1, 2, 3, 4, 5, 8, 6] rfl (by decide +kernel)
              have hP9 := hPD9.1
              have hD9 := hPD9.2
              exact W.vret hx hb hr (fun t ht hW => ⟨⟨(), rfl, trivial, y283, upd q_told 4 ((q_told 4) + 1), upd q_kind (12 + (q_told 4)).toNatClampNeg r17, upd q_salt (12 + (q_told 4)).toNatClampNeg r270, upd q_pace (12 + (q_told 4)).toNatClampNeg r281, upd q_mute (12 + (q_told 4)).toNatClampNeg 1, upd q_late (12 + (q_told 4)).toNatClampNeg 1, hq284, (fI_u hq_told (k := 4) ((iv_w b362 (by decide) (by decide)))), (fI_u hq_salt (k := (12 + (q_told 4)).toNatClampNeg) (w271.1)), (show (x0 2).toInt ≤ (y283 2).toInt from by omega), (show y283 3 = x0 3 from hq286.trans (hq275.trans (hq263.trans (hq10)))), (show ∀ j : Nat, (j : Int) < (q_told 1).toInt → (q_from j).toInt < (q_to j).toInt from hLT), (show ∀ j : Nat, (j : Int) < (q_told 5).toInt → (q_from (20 + j)).toInt < (q_to (20 + j)).toInt from hLD), (show RRd tT nN y283 (rtrS tT nN sS (q_told 4)) from it_f (Q := RRd tT nN y283) c1 (hrr361)), fun w => absurd w c359, (show y283 1 = x0 1 from hq288.trans (hq277.trans (hq265.trans (hq13)))), (show y283 10 = x0 10 from hq289.trans (hq278.trans (hq266.trans (hq14)))), (show y283 23 = x0 23 from hq290.trans (hq279.trans (hq267.trans (hq15)))), by rw [ht]; exact hP9, hD9⟩, hS.F ht⟩) hS.2.2 dX11_readRouter_178
            · have b363 : iv 0 0 (y283 8) := iv_eqL c359 ivk_0
              refine lv_aload_n hx hb dX11_readRouter_148 rfl (lv_at hl 2 rfl) ?_
              refine va_get (D := (dC, dI)) (ci := 11) (v := .ref (ra 6)) (C := RX11) (T := TX11) (N := 61) hx hb hts hin11 hown hK hP 7 rfl rfl 7 (Nat.le_of_ble_eq_true rfl) hw_6 (fun _ h9 => h9) rfl dX11_readRouter_149 ?_
              refine lv_iload_n hx hb dX11_readRouter_152 rfl (lv_at hl 1 rfl) ?_
              refine va_iald hx hb hK hP 4 1 rfl rfl (iv_in b16 (by decide) (by decide)) dX11_readRouter_153 ?_
              refine W.eq (g2 := F0 m 154 ls [.int 1]) (by rw [upd_eq]) ?_
              refine lv_aload_n hx hb dX11_readRouter_154 rfl (lv_at hl 2 rfl) ?_
              refine va_get (D := (dC, dI)) (ci := 11) (v := .ref (ra 7)) (C := RX11) (T := TX11) (N := 61) hx hb hts hin11 hown hK hP 7 rfl rfl 8 (Nat.le_of_ble_eq_true rfl) hw_7 (fun _ h9 => h9) rfl dX11_readRouter_155 ?_
              refine lv_iload_n hx hb dX11_readRouter_158 rfl (lv_at hl 1 rfl) ?_
              refine va_iald hx hb hK hP 5 1 rfl rfl (iv_in b16 (by decide) (by decide)) dX11_readRouter_159 ?_
              refine W.eq (g2 := F0 m 160 ls [.int 1, .int 1]) (by rw [upd_eq]) ?_
              refine lv_iadd hx hb dX11_readRouter_160 ?_
              refine lv_topi (fun z364 e365 => ?_)
              obtain rfl : z364 = (2 : Int32) := e365.trans (by decide)
              refine lv_if_le (tgt := 168) hx hb dX11_readRouter_161 rfl (fun c9 => absurd c9 (by decide)) (fun _ => ?_)
              refine lv_aload_n hx hb dX11_readRouter_164 rfl (lv_at hl 2 rfl) ?_
              obtain ⟨hPc, hDc, hFc, hJn⟩ := cl_a (wc := [(m0, .inr (11, oX11 ra y283)), (ra 13, .inl (kI, 700, .inl q_tape))]) (wr := [(ra 2, .inl (kI, 8, .inl q_told)), (ra 3, .inl (kI, 24, .inl (upd q_kind (12 + (q_told 4)).toNatClampNeg r17))), (ra 4, .inl (kI, 24, .inl (upd q_salt (12 + (q_told 4)).toNatClampNeg r270))), (ra 5, .inl (kI, 24, .inl (upd q_pace (12 + (q_told 4)).toNatClampNeg r281))), (ra 6, .inl (kI, 24, .inl (upd q_mute (12 + (q_told 4)).toNatClampNeg 1))), (ra 7, .inl (kI, 24, .inl (upd q_late (12 + (q_told 4)).toNatClampNeg 1))), (ra 1, .inl (kS, 4, .inr (.inr (.inr (.inr q_kinds)))))]) hP hD hS hA [7, 8] [0, 1, 2, 3, 4, 5, 6] rfl rfl (by decide +kernel)
              refine va_callv (va_runV (As := []) (rest := []) ⟨hx, hb, hml, hown, hts⟩ (s11_stepOn l dC dI kB kI kJ kZ kC kS H.size m0 ra y283 q_tape tT nN (nextT tT nN (rtr4 tT nN sS)) (hq284) (hq_tape) (hrr291.2) (stp_of hrr291) (hTQ)) (cwV 0 hts gX11_readRouter_X11_stepOn rfl rfl rfl (by decide +kernel) ⟨Nat.le_of_ble_eq_true rfl, Nat.le_of_ble_eq_true rfl⟩) ⟨fun a U g mk q => by obtain ⟨q0, q1, qP, qE, qD⟩ := q; exact ⟨q0, q1, qP, kE_call qE, qD⟩, va_recv hK hP (ci := 11) (q0 := 7) rfl rfl, fun U hU hW => ⟨rfl, by rw [hU], by rw [hU]; exact hPc, kE_warm hW hE, hDc.weaken (fun _ _ _ _ => trivial)⟩⟩ rfl rfl hl.1 rfl (lv_room (Nat.le_of_ble_eq_true rfl)) dX11_readRouter_165 ⟨Nat.le_of_ble_eq_true rfl, Nat.le_of_ble_eq_true rfl⟩) hS (fun q _ h => hFc q h) hFc (fun u t H locs ht hvm w367 hB hz1 hk1 hS => ?_)
              obtain ⟨y368, hq369, hq370, hq371, hq372, hq373, hq374, hq375, hq376, hP1, hD1⟩ := hB
              try dsimp only at w367
              obtain ⟨hPa, hDa⟩ := hJn (w1 := [(m0, .inr (11, oX11 ra y368)), (ra 13, .inl (kI, 700, .inl q_tape))]) hk1 ht hP1 hD1
              clear hP hD hPc hDc hFc hJn hP1 hD1 hk1
              have hP : va_P (dC, dI) vwCl [(ra 2, .inl (kI, 8, .inl q_told)), (ra 3, .inl (kI, 24, .inl (upd q_kind (12 + (q_told 4)).toNatClampNeg r17))), (ra 4, .inl (kI, 24, .inl (upd q_salt (12 + (q_told 4)).toNatClampNeg r270))), (ra 5, .inl (kI, 24, .inl (upd q_pace (12 + (q_told 4)).toNatClampNeg r281))), (ra 6, .inl (kI, 24, .inl (upd q_mute (12 + (q_told 4)).toNatClampNeg 1))), (ra 7, .inl (kI, 24, .inl (upd q_late (12 + (q_told 4)).toNatClampNeg 1))), (ra 1, .inl (kS, 4, .inr (.inr (.inr (.inr q_kinds))))), (m0, .inr (11, oX11 ra y368)), (ra 13, .inl (kI, 700, .inl q_tape))] H := hPa
              have hD : va_D A [(ra 2, .inl (kI, 8, .inl q_told)), (ra 3, .inl (kI, 24, .inl (upd q_kind (12 + (q_told 4)).toNatClampNeg r17))), (ra 4, .inl (kI, 24, .inl (upd q_salt (12 + (q_told 4)).toNatClampNeg r270))), (ra 5, .inl (kI, 24, .inl (upd q_pace (12 + (q_told 4)).toNatClampNeg r281))), (ra 6, .inl (kI, 24, .inl (upd q_mute (12 + (q_told 4)).toNatClampNeg 1))), (ra 7, .inl (kI, 24, .inl (upd q_late (12 + (q_told 4)).toNatClampNeg 1))), (ra 1, .inl (kS, 4, .inr (.inr (.inr (.inr q_kinds))))), (m0, .inr (11, oX11 ra y368)), (ra 13, .inl (kI, 700, .inl q_tape))] := hDa
              clear hPa hDa
              refine W.widen (k := 0) (n := 0) (Nat.le_of_ble_eq_true rfl) (Nat.le_of_ble_eq_true rfl) ?_
              have hrr377 : RRd tT nN y368 (manT tT nN (rtr4 tT nN sS)) := (mq_s hrr291 c359 (Or.inl c295)) ▸ hq373
              refine lv_aload_n hx hb dX11_readRouter_168 rfl (lv_at hl 2 rfl) ?_
              refine va_get (D := (dC, dI)) (ci := 11) (v := .ref (ra 2)) (C := RX11) (T := TX11) (N := 61) hx hb hts hin11 hown hK hP 7 rfl rfl 3 (Nat.le_of_ble_eq_true rfl) hw_0 (fun _ h9 => h9) rfl dX11_readRouter_169 ?_
              refine lv_iconst (v := 4) hx hb dX11_readRouter_172 ic_4 ?_
              refine lv_dup2_11 hx hb dX11_readRouter_173 rfl rfl ?_
              refine va_iald hx hb hK hP 0 1 rfl rfl (vp_in_nI (n := 4) (by decide) (by decide)) dX11_readRouter_174 ?_
              refine W.eq (g2 := F0 m 175 ls [.int (q_told 4), .int 4, .ref (ra 2)]) rfl ?_
              refine lv_iconst (v := 1) hx hb dX11_readRouter_175 ic_1 ?_
              refine lv_iadd hx hb dX11_readRouter_176 ?_
              have b378 : iv 1 12 ((q_told 4) + 1) := iv_add b2 ivk_1 (by decide) (by decide) (by decide) (by decide)
              refine va_iast hx hb hK hP hD hS 0 1 rfl rfl (vp_in_nI (n := 4) (by decide) (by decide)) dX11_readRouter_177 (fun H locs hPa hDa hS => ?_)
              clear hP hD
              have hP : va_P (dC, dI) vwCl [(ra 2, .inl (kI, 8, .inl (upd q_told 4 ((q_told 4) + 1)))), (ra 3, .inl (kI, 24, .inl (upd q_kind (12 + (q_told 4)).toNatClampNeg r17))), (ra 4, .inl (kI, 24, .inl (upd q_salt (12 + (q_told 4)).toNatClampNeg r270))), (ra 5, .inl (kI, 24, .inl (upd q_pace (12 + (q_told 4)).toNatClampNeg r281))), (ra 6, .inl (kI, 24, .inl (upd q_mute (12 + (q_told 4)).toNatClampNeg 1))), (ra 7, .inl (kI, 24, .inl (upd q_late (12 + (q_told 4)).toNatClampNeg 1))), (ra 1, .inl (kS, 4, .inr (.inr (.inr (.inr q_kinds))))), (m0, .inr (11, oX11 ra y368)), (ra 13, .inl (kI, 700, .inl q_tape))] H := hPa
              have hD : va_D A [(ra 2, .inl (kI, 8, .inl (upd q_told 4 ((q_told 4) + 1)))), (ra 3, .inl (kI, 24, .inl (upd q_kind (12 + (q_told 4)).toNatClampNeg r17))), (ra 4, .inl (kI, 24, .inl (upd q_salt (12 + (q_told 4)).toNatClampNeg r270))), (ra 5, .inl (kI, 24, .inl (upd q_pace (12 + (q_told 4)).toNatClampNeg r281))), (ra 6, .inl (kI, 24, .inl (upd q_mute (12 + (q_told 4)).toNatClampNeg 1))), (ra 7, .inl (kI, 24, .inl (upd q_late (12 + (q_told 4)).toNatClampNeg 1))), (ra 1, .inl (kS, 4, .inr (.inr (.inr (.inr q_kinds))))), (m0, .inr (11, oX11 ra y368)), (ra 13, .inl (kI, 700, .inl q_tape))] := hDa
              clear hPa hDa
              have hPD9 := cl_s (wc := [(m0, .inr (11, oX11 ra y368)), (ra 2, .inl (kI, 8, .inl (upd q_told 4 ((q_told 4) + 1)))), (ra 3, .inl (kI, 24, .inl (upd q_kind (12 + (q_told 4)).toNatClampNeg r17))), (ra 4, .inl (kI, 24, .inl (upd q_salt (12 + (q_told 4)).toNatClampNeg r270))), (ra 5, .inl (kI, 24, .inl (upd q_pace (12 + (q_told 4)).toNatClampNeg r281))), (ra 6, .inl (kI, 24, .inl (upd q_mute (12 + (q_told 4)).toNatClampNeg 1))), (ra 7, .inl (kI, 24, .inl (upd q_late (12 + (q_told 4)).toNatClampNeg 1))), (ra 13, .inl (kI, 700, .inl q_tape)), (ra 1, .inl (kS, 4, .inr (.inr (.inr (.inr q_kinds)))))]) hP hD [7, 0, 1, 2, 3, 4, 5, 8, 6] rfl (by decide +kernel)
              have hP9 := hPD9.1
              have hD9 := hPD9.2
              exact W.vret hx hb hr (fun t ht hW => ⟨⟨(), rfl, trivial, y368, upd q_told 4 ((q_told 4) + 1), upd q_kind (12 + (q_told 4)).toNatClampNeg r17, upd q_salt (12 + (q_told 4)).toNatClampNeg r270, upd q_pace (12 + (q_told 4)).toNatClampNeg r281, upd q_mute (12 + (q_told 4)).toNatClampNeg 1, upd q_late (12 + (q_told 4)).toNatClampNeg 1, hq369, (fI_u hq_told (k := 4) ((iv_w b378 (by decide) (by decide)))), (fI_u hq_salt (k := (12 + (q_told 4)).toNatClampNeg) (w271.1)), (show (x0 2).toInt ≤ (y368 2).toInt from by omega), (show y368 3 = x0 3 from hq371.trans (hq286.trans (hq275.trans (hq263.trans (hq10))))), (show ∀ j : Nat, (j : Int) < (q_told 1).toInt → (q_from j).toInt < (q_to j).toInt from hLT), (show ∀ j : Nat, (j : Int) < (q_told 5).toInt → (q_from (20 + j)).toInt < (q_to (20 + j)).toInt from hLD), (show RRd tT nN y368 (rtrS tT nN sS (q_told 4)) from it_f (Q := RRd tT nN y368) c1 (hrr377)), fun _ => absurd (ok_next (ok_num (ok_next (ok_num (ok_next (rr_ok hrr291 c359)))))) (fun w => ok_fail ((kq_n hwk c19).symm ▸ w)), (show y368 1 = x0 1 from hq374.trans (hq288.trans (hq277.trans (hq265.trans (hq13))))), (show y368 10 = x0 10 from hq375.trans (hq289.trans (hq278.trans (hq266.trans (hq14))))), (show y368 23 = x0 23 from hq376.trans (hq290.trans (hq279.trans (hq267.trans (hq15))))), by rw [ht]; exact hP9, hD9⟩, hS.F ht⟩) hS.2.2 dX11_readRouter_178
    · have b379 : iv 1 5 (x0 8) := iv_neLo c3 (hX 8 : iv 0 5 (x0 8)) ivk_0 (by decide) (by decide)
      have hP9 := hP
      have hD9 := hD
      exact W.vret hx hb hr (fun t ht hW => ⟨⟨(), rfl, trivial, x0, q_told, q_kind, q_salt, q_pace, q_mute, q_late, hX, hq_told, hq_salt, (show (x0 2).toInt ≤ (x0 2).toInt from by omega), (show x0 3 = x0 3 from rfl), (show ∀ j : Nat, (j : Int) < (q_told 1).toInt → (q_from j).toInt < (q_to j).toInt from hLT), (show ∀ j : Nat, (j : Int) < (q_told 5).toInt → (q_from (20 + j)).toInt < (q_to (20 + j)).toInt from hLD), (show RRd tT nN x0 (rtrS tT nN sS (q_told 4)) from (rt_in hRr c3) ▸ hRr), (show x0 8 = 0 → q_told = upd q_told 4 (q_told 4 + 1) ∧ q_kind = upd q_kind ((12 + (q_told 4)).toNatClampNeg) (kndS tT (rtr1 tT nN sS)) ∧ q_salt = upd q_salt ((12 + (q_told 4)).toNatClampNeg) (valS tT (rtr2 tT nN sS)) ∧ q_pace = upd q_pace ((12 + (q_told 4)).toNatClampNeg) (valS tT (rtr3 tT nN sS)) ∧ q_mute = upd q_mute ((12 + (q_told 4)).toNatClampNeg) (wS tT 8 (rtr4 tT nN sS)) ∧ q_late = upd q_late ((12 + (q_told 4)).toNatClampNeg) (wS tT 9 (rtr4 tT nN sS)) from fun w => absurd w c3), (show x0 1 = x0 1 from rfl), (show x0 10 = x0 10 from rfl), (show x0 23 = x0 23 from rfl), by rw [ht]; exact hP9, hD9⟩, hS.F ht⟩) hS.2.2 dX11_readRouter_23
  · have b380 : iv 12 12 (q_told 4) := iv_eqL c1 ivk_12
    refine lv_aload_n hx hb dX11_readRouter_11 rfl (lv_at hl 0 rfl) ?_
    refine lv_iconst (v := 2) hx hb dX11_readRouter_12 ic_2 ?_
    obtain ⟨hPc, hDc, hFc, hJn⟩ := cl_a (wc := [(m0, .inr (11, oX11 ra x0))]) (wr := [(ra 2, .inl (kI, 8, .inl q_told)), (ra 3, .inl (kI, 24, .inl q_kind)), (ra 4, .inl (kI, 24, .inl q_salt)), (ra 5, .inl (kI, 24, .inl q_pace)), (ra 6, .inl (kI, 24, .inl q_mute)), (ra 7, .inl (kI, 24, .inl q_late)), (ra 13, .inl (kI, 700, .inl q_tape)), (ra 1, .inl (kS, 4, .inr (.inr (.inr (.inr q_kinds)))))]) hP hD hS hA [0] [1, 2, 3, 4, 5, 6, 7, 8] rfl rfl (by decide +kernel)
    refine va_callv (va_runV (As := [.int 2]) (rest := []) ⟨hx, hb, hml, hown, hts⟩ (s11_wrong l dC dI kB kI kJ kZ kC kS s.heap.size m0 ra x0 2 tT nN sS (hX) ((iv_w ivk_2 (by decide) (by decide))) (hRr)) (cwV 1 hts gX11_readRouter_X11_wrong rfl rfl rfl (by decide +kernel) ⟨Nat.le_of_ble_eq_true rfl, Nat.le_of_ble_eq_true rfl⟩) ⟨fun a U g mk q => by obtain ⟨q0, q1, qP, qE, qD⟩ := q; exact ⟨q0, q1, qP, kE_call qE, qD⟩, va_recv hK hP (ci := 11) (q0 := 0) rfl rfl, fun U hU hW => ⟨rfl, by rw [hU], by rw [hU]; exact hPc, kE_warm hW hE, hDc.weaken (fun _ _ _ _ => trivial)⟩⟩ rfl rfl hl.1 rfl (lv_room (Nat.le_of_ble_eq_true rfl)) dX11_readRouter_13 ⟨Nat.le_of_ble_eq_true rfl, Nat.le_of_ble_eq_true rfl⟩) hS (fun q _ h => hFc q h) hFc (fun u t H locs ht hvm w382 hB hz1 hk1 hS => ?_)
    obtain ⟨y383, hq384, hq385, hq386, hq387, hq388, hq389, hq390, hq391, hP1, hD1⟩ := hB
    try dsimp only at w382
    obtain ⟨hPa, hDa⟩ := hJn (w1 := [(m0, .inr (11, oX11 ra y383))]) hk1 ht hP1 hD1
    clear hP hD hPc hDc hFc hJn hP1 hD1 hk1
    have hP : va_P (dC, dI) vwCl [(ra 2, .inl (kI, 8, .inl q_told)), (ra 3, .inl (kI, 24, .inl q_kind)), (ra 4, .inl (kI, 24, .inl q_salt)), (ra 5, .inl (kI, 24, .inl q_pace)), (ra 6, .inl (kI, 24, .inl q_mute)), (ra 7, .inl (kI, 24, .inl q_late)), (ra 13, .inl (kI, 700, .inl q_tape)), (ra 1, .inl (kS, 4, .inr (.inr (.inr (.inr q_kinds))))), (m0, .inr (11, oX11 ra y383))] H := hPa
    have hD : va_D A [(ra 2, .inl (kI, 8, .inl q_told)), (ra 3, .inl (kI, 24, .inl q_kind)), (ra 4, .inl (kI, 24, .inl q_salt)), (ra 5, .inl (kI, 24, .inl q_pace)), (ra 6, .inl (kI, 24, .inl q_mute)), (ra 7, .inl (kI, 24, .inl q_late)), (ra 13, .inl (kI, 700, .inl q_tape)), (ra 1, .inl (kS, 4, .inr (.inr (.inr (.inr q_kinds))))), (m0, .inr (11, oX11 ra y383))] := hDa
    clear hPa hDa
    refine W.widen (k := 0) (n := 0) (Nat.le_of_ble_eq_true rfl) (Nat.le_of_ble_eq_true rfl) ?_
    refine lv_aload_n hx hb dX11_readRouter_16 rfl (lv_at hl 0 rfl) ?_
    refine va_get (D := (dC, dI)) (ci := 11) (v := .int (y383 8)) (C := RX11) (T := TX11) (N := 61) hx hb hts hin11 hown hK hP 8 rfl rfl 22 (Nat.le_of_ble_eq_true rfl) hw_1 (fun _ h9 => h9) rfl dX11_readRouter_17 ?_
    refine lv_if_eq (tgt := 24) hx hb dX11_readRouter_20 rfl (fun c9 => absurd c9 (iv_ne hq385 ivk_0 (by decide))) (fun _ => ?_)
    have hPD9 := cl_s (wc := [(m0, .inr (11, oX11 ra y383)), (ra 2, .inl (kI, 8, .inl q_told)), (ra 3, .inl (kI, 24, .inl q_kind)), (ra 4, .inl (kI, 24, .inl q_salt)), (ra 5, .inl (kI, 24, .inl q_pace)), (ra 6, .inl (kI, 24, .inl q_mute)), (ra 7, .inl (kI, 24, .inl q_late)), (ra 13, .inl (kI, 700, .inl q_tape)), (ra 1, .inl (kS, 4, .inr (.inr (.inr (.inr q_kinds)))))]) hP hD [8, 0, 1, 2, 3, 4, 5, 6, 7] rfl (by decide +kernel)
    have hP9 := hPD9.1
    have hD9 := hPD9.2
    exact W.vret hx hb hr (fun t ht hW => ⟨⟨(), rfl, trivial, y383, q_told, q_kind, q_salt, q_pace, q_mute, q_late, hq384, hq_told, hq_salt, (show (x0 2).toInt ≤ (y383 2).toInt from by omega), (show y383 3 = x0 3 from hq387), (show ∀ j : Nat, (j : Int) < (q_told 1).toInt → (q_from j).toInt < (q_to j).toInt from hLT), (show ∀ j : Nat, (j : Int) < (q_told 5).toInt → (q_from (20 + j)).toInt < (q_to (20 + j)).toInt from hLD), (show RRd tT nN y383 (rtrS tT nN sS (q_told 4)) from it_t (Q := RRd tT nN y383) c1 (hq388)), (show y383 8 = 0 → q_told = upd q_told 4 (q_told 4 + 1) ∧ q_kind = upd q_kind ((12 + (q_told 4)).toNatClampNeg) (kndS tT (rtr1 tT nN sS)) ∧ q_salt = upd q_salt ((12 + (q_told 4)).toNatClampNeg) (valS tT (rtr2 tT nN sS)) ∧ q_pace = upd q_pace ((12 + (q_told 4)).toNatClampNeg) (valS tT (rtr3 tT nN sS)) ∧ q_mute = upd q_mute ((12 + (q_told 4)).toNatClampNeg) (wS tT 8 (rtr4 tT nN sS)) ∧ q_late = upd q_late ((12 + (q_told 4)).toNatClampNeg) (wS tT 9 (rtr4 tT nN sS)) from fun w => absurd w (rr_nf hq388)), (show y383 1 = x0 1 from hq389), (show y383 10 = x0 10 from hq390), (show y383 23 = x0 23 from hq391), by rw [ht]; exact hP9, hD9⟩, hS.F ht⟩) hS.2.2 dX11_readRouter_23
def rm_s11_readLink : Room := { frames := 3, cells := 0, slots := 0, locals := 64 }
set_option maxHeartbeats 4000000 in
set_option maxRecDepth 100000 in
theorem s11_readLink (l : Launch) (dC : Nat → ClassId) (dI : Nat → Nat → Nat) (kB kI kJ kZ kC kS : ClassId) (sz : Nat) (m0 : Nat) (ra : Nat → Nat) (x0 : Nat → Int32) (q_told : Nat → Int32) (q_from : Nat → Int32) (q_to : Nat → Int32) (q_tape : Nat → Int32) (tT : Nat → Int32) (nN : Int32) (sS : StT) (hX : fI lX11 hX11 x0) (hq_told : fI lTold hTold q_told) (hq_from : fI (fun _ => 0) (fun _ => 11) q_from) (hq_to : fI (fun _ => 0) (fun _ => 11) q_to) (hq_tape : fI (fun _ => 0) (fun _ => 255) q_tape) (hLT : ∀ j : Nat, (j : Int) < (q_told 1).toInt → (q_from j).toInt < (q_to j).toInt) (hLD : ∀ j : Nat, (j : Int) < (q_told 5).toInt → (q_from (20 + j)).toInt < (q_to (20 + j)).toInt) (hRr : RRd tT nN x0 sS) (hTQ : tT = q_tape) : Met l yX11_readLink wsX11_readLink rm_s11_readLink (va_Pc [.ref m0] (fun U => U.heap.size = sz ∧ va_P (dC, dI) vwCl [(m0, .inr (11, oX11 ra x0)), (ra 2, .inl (kI, 8, .inl q_told)), (ra 8, .inl (kI, 40, .inl q_from)), (ra 9, .inl (kI, 40, .inl q_to)), (ra 13, .inl (kI, 700, .inl q_tape))] U.heap ∧ kE dC dI kB kI kJ kZ kC kS U ∧ va_D (fun _ => True) [(m0, .inr (11, oX11 ra x0)), (ra 2, .inl (kI, 8, .inl q_told)), (ra 8, .inl (kI, 40, .inl q_from)), (ra 9, .inl (kI, 40, .inl q_to)), (ra 13, .inl (kI, 700, .inl q_tape))])) (va_Qv (fun (_ : Unit) => True) (fun _ t => ∃ (x0' : Nat → Int32) (q_told' : Nat → Int32) (q_from' : Nat → Int32) (q_to' : Nat → Int32), fI lX11 hX11 x0' ∧ fI lTold hTold q_told' ∧ fI (fun _ => 0) (fun _ => 11) q_from' ∧ fI (fun _ => 0) (fun _ => 11) q_to' ∧ ((x0 2).toInt ≤ (x0' 2).toInt) ∧ (x0' 3 = x0 3) ∧ (∀ j : Nat, (j : Int) < (q_told' 1).toInt → (q_from' j).toInt < (q_to' j).toInt) ∧ (∀ j : Nat, (j : Int) < (q_told' 5).toInt → (q_from' (20 + j)).toInt < (q_to' (20 + j)).toInt) ∧ (RRd tT nN x0' (lnkS tT nN sS (q_told 4) (q_told 5) (shT 20 q_from) (shT 20 q_to))) ∧ (x0' 8 = 0 → q_told' = upd q_told 5 (q_told 5 + 1) ∧ q_from' = upd q_from ((20 + (q_told 5)).toNatClampNeg) (lnkA tT nN sS) ∧ q_to' = upd q_to ((20 + (q_told 5)).toNatClampNeg) (lnkB tT nN sS (q_told 4) (q_told 5) (shT 20 q_from))) ∧ (x0' 1 = x0 1) ∧ (x0' 10 = x0 10) ∧ (x0' 23 = x0 23) ∧ va_P (dC, dI) vwCl [(m0, .inr (11, oX11 ra x0')), (ra 2, .inl (kI, 8, .inl q_told')), (ra 8, .inl (kI, 40, .inl q_from')), (ra 9, .inl (kI, 40, .inl q_to')), (ra 13, .inl (kI, 700, .inl q_tape))] t.heap ∧ va_D (va_A [(m0, .inr (11, oX11 ra x0)), (ra 2, .inl (kI, 8, .inl q_told)), (ra 8, .inl (kI, 40, .inl q_from)), (ra 9, .inl (kI, 40, .inl q_to)), (ra 13, .inl (kI, 700, .inl q_tape))] sz) [(m0, .inr (11, oX11 ra x0')), (ra 2, .inl (kI, 8, .inl q_told')), (ra 8, .inl (kI, 40, .inl q_from')), (ra 9, .inl (kI, 40, .inl q_to')), (ra 13, .inl (kI, 700, .inl q_tape))]) (va_A [(m0, .inr (11, oX11 ra x0)), (ra 2, .inl (kI, 8, .inl q_told)), (ra 8, .inl (kI, 40, .inl q_from)), (ra 9, .inl (kI, 40, .inl q_to)), (ra 13, .inl (kI, 700, .inl q_tape))] sz)) 0 0 (va_A [(m0, .inr (11, oX11 ra x0)), (ra 2, .inl (kI, 8, .inl q_told)), (ra 8, .inl (kI, 40, .inl q_from)), (ra 9, .inl (kI, 40, .inl q_to)), (ra 13, .inl (kI, 700, .inl q_tape))] sz) := by
  refine Met.ofW (cc := cX11_readLink) (maxL := 3) (ret := none) (by decide) rfl ?_
  intro p e s m args0 below meth c s₁ B hml hv
  obtain ⟨hargs, hsz, hP, hE, hD0⟩ := hv
  have hx := B.exec
  have hb := B.bytes
  have hr := B.returns
  have hts := atoms_spec (ws := wsX11_readLink) B.pre
  have hown : s.vm.findClass RX11 = some m.cls := findClass_of_methodNamed B.named
  have hlocks := B.notSynchronized
  have hK := hE.1
  have hin11 : ∀ w ∈ wsX110, w ∈ wsX11_readLink := fun _ h9 => List.mem_cons_of_mem _ (List.mem_append_right _ h9)
  have hw_0 := hts (.fieldLink RX11 34 "PathProberModel" "told" "[I") (List.mem_of_getElem? (i := 1) rfl)
  have hw_1 := hts (.fieldLink RX11 184 "PathProberModel" "bad" "I") (List.mem_of_getElem? (i := 2) rfl)
  have hw_2 := hts (.fieldLink RX11 53 "PathProberModel" "from" "[I") (List.mem_of_getElem? (i := 3) rfl)
  have hw_3 := hts (.fieldLink RX11 56 "PathProberModel" "to" "[I") (List.mem_of_getElem? (i := 4) rfl)
  subst hsz
  have hD := hD0.self (sz := s.heap.size)
  generalize hAe : va_A [(m0, .inr (11, oX11 ra x0)), (ra 2, .inl (kI, 8, .inl q_told)), (ra 8, .inl (kI, 40, .inl q_from)), (ra 9, .inl (kI, 40, .inl q_to)), (ra 13, .inl (kI, 700, .inl q_tape))] s.heap.size = A at hD ⊢
  have hA : ∀ q : Nat, s.heap.size ≤ q → A q := fun q h => by rw [← hAe]; exact Or.inr h
  have hS : va_S A s.heap s.heap [] := va_S.rf
  have hP : va_P (dC, dI) vwCl [(m0, .inr (11, oX11 ra x0)), (ra 2, .inl (kI, 8, .inl q_told)), (ra 8, .inl (kI, 40, .inl q_from)), (ra 9, .inl (kI, 40, .inl q_to)), (ra 13, .inl (kI, 700, .inl q_tape))] s.heap := hP
  have hl := lv_entry ([.ref m0]) (n := 3) (Nat.le_of_ble_eq_true rfl)
  have hla : entryFrame m args0 3 = entryFrame m ([.ref m0] : List Value).toArray 3 := by rw [hargs]
  rw [hla, lg_entry_eq]
  generalize (lg_sl ([.ref m0]) ++ List.replicate (3 - (lg_sl ([.ref m0])).length) Slot.unset).toArray = ls at hl ⊢
  have hl : lv_has ls 3 [(0, .ref m0)] := hl
  refine lv_aload_n hx hb dX11_readLink_0 rfl (lv_at hl 0 rfl) ?_
  refine va_get (D := (dC, dI)) (ci := 11) (v := .ref (ra 2)) (C := RX11) (T := TX11) (N := 61) hx hb hts hin11 hown hK hP 0 rfl rfl 3 (Nat.le_of_ble_eq_true rfl) hw_0 (fun _ h9 => h9) rfl dX11_readLink_1 ?_
  refine lv_iconst (v := 5) hx hb dX11_readLink_4 ic_5 ?_
  refine va_iald hx hb hK hP 1 1 rfl rfl (vp_in_nI (n := 5) (by decide) (by decide)) dX11_readLink_5 ?_
  refine W.eq (g2 := F0 m 6 ls [.int (q_told 5)]) rfl ?_
  refine lv_bipush (v := 20) hx hb dX11_readLink_6 bp_20 ?_
  refine lv_icmp_ne (tgt := 16) hx hb dX11_readLink_8 rfl (fun c1 => ?_) (fun c1 => ?_)
  · have b2 : iv 0 19 (q_told 5) := iv_neHi c1 (hq_told 5 : iv 0 20 (q_told 5)) ivk_20 (by decide) (by decide)
    refine lv_aload_n hx hb dX11_readLink_16 rfl (lv_at hl 0 rfl) ?_
    refine va_get (D := (dC, dI)) (ci := 11) (v := .int (x0 8)) (C := RX11) (T := TX11) (N := 61) hx hb hts hin11 hown hK hP 0 rfl rfl 22 (Nat.le_of_ble_eq_true rfl) hw_1 (fun _ h9 => h9) rfl dX11_readLink_17 ?_
    refine lv_if_eq (tgt := 24) hx hb dX11_readLink_20 rfl (fun c3 => ?_) (fun c3 => ?_)
    · have b4 : iv 0 0 (x0 8) := iv_eqL c3 ivk_0
      refine lv_aload_n hx hb dX11_readLink_24 rfl (lv_at hl 0 rfl) ?_
      obtain ⟨hPc, hDc, hFc, hJn⟩ := cl_a (wc := [(m0, .inr (11, oX11 ra x0)), (ra 13, .inl (kI, 700, .inl q_tape))]) (wr := [(ra 2, .inl (kI, 8, .inl q_told)), (ra 8, .inl (kI, 40, .inl q_from)), (ra 9, .inl (kI, 40, .inl q_to))]) hP hD hS hA [0, 4] [1, 2, 3] rfl rfl (by decide +kernel)
      refine va_callv (va_runV (As := []) (rest := []) ⟨hx, hb, hml, hown, hts⟩ (s11_stepOn l dC dI kB kI kJ kZ kC kS s.heap.size m0 ra x0 q_tape tT nN (nextT tT nN sS) (hX) (hq_tape) (hRr.2) (stp_of hRr) (hTQ)) (cwV 0 hts gX11_readLink_X11_stepOn rfl rfl rfl (by decide +kernel) ⟨Nat.le_of_ble_eq_true rfl, Nat.le_of_ble_eq_true rfl⟩) ⟨fun a U g mk q => by obtain ⟨q0, q1, qP, qE, qD⟩ := q; exact ⟨q0, q1, qP, kE_call qE, qD⟩, va_recv hK hP (ci := 11) (q0 := 0) rfl rfl, fun U hU hW => ⟨rfl, by rw [hU], by rw [hU]; exact hPc, kE_warm hW hE, hDc.weaken (fun _ _ _ _ => trivial)⟩⟩ rfl rfl hl.1 rfl (lv_room (Nat.le_of_ble_eq_true rfl)) dX11_readLink_25 ⟨Nat.le_of_ble_eq_true rfl, Nat.le_of_ble_eq_true rfl⟩) hS (fun q _ h => hFc q h) hFc (fun u t H locs ht hvm w6 hB hz1 hk1 hS => ?_)
      obtain ⟨y7, hq8, hq9, hq10, hq11, hq12, hq13, hq14, hq15, hP1, hD1⟩ := hB
      try dsimp only at w6
      obtain ⟨hPa, hDa⟩ := hJn (w1 := [(m0, .inr (11, oX11 ra y7)), (ra 13, .inl (kI, 700, .inl q_tape))]) hk1 ht hP1 hD1
      clear hP hD hPc hDc hFc hJn hP1 hD1 hk1
      have hP : va_P (dC, dI) vwCl [(ra 2, .inl (kI, 8, .inl q_told)), (ra 8, .inl (kI, 40, .inl q_from)), (ra 9, .inl (kI, 40, .inl q_to)), (m0, .inr (11, oX11 ra y7)), (ra 13, .inl (kI, 700, .inl q_tape))] H := hPa
      have hD : va_D A [(ra 2, .inl (kI, 8, .inl q_told)), (ra 8, .inl (kI, 40, .inl q_from)), (ra 9, .inl (kI, 40, .inl q_to)), (m0, .inr (11, oX11 ra y7)), (ra 13, .inl (kI, 700, .inl q_tape))] := hDa
      clear hPa hDa
      refine W.widen (k := 0) (n := 0) (Nat.le_of_ble_eq_true rfl) (Nat.le_of_ble_eq_true rfl) ?_
      refine lv_aload_n hx hb dX11_readLink_28 rfl (lv_at hl 0 rfl) ?_
      obtain ⟨hPc, hDc, hFc, hJn⟩ := cl_a (wc := [(m0, .inr (11, oX11 ra y7)), (ra 2, .inl (kI, 8, .inl q_told))]) (wr := [(ra 8, .inl (kI, 40, .inl q_from)), (ra 9, .inl (kI, 40, .inl q_to)), (ra 13, .inl (kI, 700, .inl q_tape))]) hP hD hS hA [3, 0] [1, 2, 4] rfl rfl (by decide +kernel)
      refine va_calli (va_runV (As := []) (rest := []) ⟨hx, hb, hml, hown, hts⟩ (s11_routerNow l dC dI kB kI kJ kZ kC kS H.size m0 ra y7 q_told tT nN (nextT tT nN sS) (hq8) (hq_told) (hq12)) (cwV 0 hts gX11_readLink_X11_routerNow rfl rfl rfl (by decide +kernel) ⟨Nat.le_of_ble_eq_true rfl, Nat.le_of_ble_eq_true rfl⟩) ⟨fun a U g mk q => by obtain ⟨q0, q1, qP, qE, qD⟩ := q; exact ⟨q0, q1, qP, kE_call qE, qD⟩, va_recv hK hP (ci := 11) (q0 := 3) rfl rfl, fun U hU hW => ⟨rfl, by rw [hU], by rw [hU]; exact hPc, kE_warm hW hE, hDc.weaken (fun _ _ _ _ => trivial)⟩⟩ rfl rfl hl.1 rfl (lv_room (Nat.le_of_ble_eq_true rfl)) dX11_readLink_29 ⟨Nat.le_of_ble_eq_true rfl, Nat.le_of_ble_eq_true rfl⟩) hS (fun q _ h => hFc q h) hFc (fun r16 u t H locs ht hvm w17 hB hz1 hk1 hS => ?_)
      obtain ⟨y18, hq19, hq20, hq21, hq22, hq23, hq24, hq25, hP1, hD1⟩ := hB
      try dsimp only at w17
      obtain ⟨hPa, hDa⟩ := hJn (w1 := [(m0, .inr (11, oX11 ra y18)), (ra 2, .inl (kI, 8, .inl q_told))]) hk1 ht hP1 hD1
      clear hP hD hPc hDc hFc hJn hP1 hD1 hk1
      have hP : va_P (dC, dI) vwCl [(ra 8, .inl (kI, 40, .inl q_from)), (ra 9, .inl (kI, 40, .inl q_to)), (ra 13, .inl (kI, 700, .inl q_tape)), (m0, .inr (11, oX11 ra y18)), (ra 2, .inl (kI, 8, .inl q_told))] H := hPa
      have hD : va_D A [(ra 8, .inl (kI, 40, .inl q_from)), (ra 9, .inl (kI, 40, .inl q_to)), (ra 13, .inl (kI, 700, .inl q_tape)), (m0, .inr (11, oX11 ra y18)), (ra 2, .inl (kI, 8, .inl q_told))] := hDa
      clear hPa hDa
      refine W.widen (k := 0) (n := 0) (Nat.le_of_ble_eq_true rfl) (Nat.le_of_ble_eq_true rfl) ?_
      have hv9 := w17.2
      refine lv_istore_n (lv' := [(1, .int r16), (0, .ref m0)]) hx hb dX11_readLink_32 rfl hl (Nat.le_of_ble_eq_true rfl) rfl (fun ls hl => ?_)
      refine lv_aload_n hx hb dX11_readLink_33 rfl (lv_at hl 1 rfl) ?_
      refine va_get (D := (dC, dI)) (ci := 11) (v := .int (y18 8)) (C := RX11) (T := TX11) (N := 61) hx hb hts hin11 hown hK hP 3 rfl rfl 22 (Nat.le_of_ble_eq_true rfl) hw_1 (fun _ h9 => h9) rfl dX11_readLink_34 ?_
      refine lv_if_ne (tgt := 54) hx hb dX11_readLink_37 rfl (fun c26 => ?_) (fun c26 => ?_)
      · have b27 : iv 1 5 (y18 8) := iv_neLo c26 (hq19 8 : iv 0 5 (y18 8)) ivk_0 (by decide) (by decide)
        have hrr28 : RRd tT nN y18 (iteT (cntT (shT 20 q_from) (lnkA tT nN sS) (q_told 5).toNatClampNeg = 4) (failT 2 (lnk1 tT nN sS (q_told 4))) (lnk1 tT nN sS (q_told 4))) := ite_r hq22 c26 ▸ hq22
        refine lv_aload_n hx hb dX11_readLink_54 rfl (lv_at hl 1 rfl) ?_
        refine va_get (D := (dC, dI)) (ci := 11) (v := .int (y18 8)) (C := RX11) (T := TX11) (N := 61) hx hb hts hin11 hown hK hP 3 rfl rfl 22 (Nat.le_of_ble_eq_true rfl) hw_1 (fun _ h9 => h9) rfl dX11_readLink_55 ?_
        refine lv_if_ne (tgt := 65) hx hb dX11_readLink_58 rfl (fun _ => ?_) (fun c9 => absurd c9 (c26))
        have hrr29 : RRd tT nN y18 (lnk2 tT nN sS (q_told 4) (q_told 5) (shT 20 q_from)) := rr_stepN hrr28 c26
        refine lv_aload_n hx hb dX11_readLink_65 rfl (lv_at hl 1 rfl) ?_
        obtain ⟨hPc, hDc, hFc, hJn⟩ := cl_a (wc := [(m0, .inr (11, oX11 ra y18)), (ra 2, .inl (kI, 8, .inl q_told))]) (wr := [(ra 8, .inl (kI, 40, .inl q_from)), (ra 9, .inl (kI, 40, .inl q_to)), (ra 13, .inl (kI, 700, .inl q_tape))]) hP hD hS hA [3, 4] [0, 1, 2] rfl rfl (by decide +kernel)
        refine va_calli (va_runV (As := []) (rest := []) ⟨hx, hb, hml, hown, hts⟩ (s11_routerNow l dC dI kB kI kJ kZ kC kS H.size m0 ra y18 q_told tT nN (lnk2 tT nN sS (q_told 4) (q_told 5) (shT 20 q_from)) (hq19) (hq_told) (hrr29)) (cwV 0 hts gX11_readLink_X11_routerNow rfl rfl rfl (by decide +kernel) ⟨Nat.le_of_ble_eq_true rfl, Nat.le_of_ble_eq_true rfl⟩) ⟨fun a U g mk q => by obtain ⟨q0, q1, qP, qE, qD⟩ := q; exact ⟨q0, q1, qP, kE_call qE, qD⟩, va_recv hK hP (ci := 11) (q0 := 3) rfl rfl, fun U hU hW => ⟨rfl, by rw [hU], by rw [hU]; exact hPc, kE_warm hW hE, hDc.weaken (fun _ _ _ _ => trivial)⟩⟩ rfl rfl hl.1 rfl (lv_room (Nat.le_of_ble_eq_true rfl)) dX11_readLink_66 ⟨Nat.le_of_ble_eq_true rfl, Nat.le_of_ble_eq_true rfl⟩) hS (fun q _ h => hFc q h) hFc (fun r30 u t H locs ht hvm w31 hB hz1 hk1 hS => ?_)
        obtain ⟨y32, hq33, hq34, hq35, hq36, hq37, hq38, hq39, hP1, hD1⟩ := hB
        try dsimp only at w31
        obtain ⟨hPa, hDa⟩ := hJn (w1 := [(m0, .inr (11, oX11 ra y32)), (ra 2, .inl (kI, 8, .inl q_told))]) hk1 ht hP1 hD1
        clear hP hD hPc hDc hFc hJn hP1 hD1 hk1
        have hP : va_P (dC, dI) vwCl [(ra 8, .inl (kI, 40, .inl q_from)), (ra 9, .inl (kI, 40, .inl q_to)), (ra 13, .inl (kI, 700, .inl q_tape)), (m0, .inr (11, oX11 ra y32)), (ra 2, .inl (kI, 8, .inl q_told))] H := hPa
        have hD : va_D A [(ra 8, .inl (kI, 40, .inl q_from)), (ra 9, .inl (kI, 40, .inl q_to)), (ra 13, .inl (kI, 700, .inl q_tape)), (m0, .inr (11, oX11 ra y32)), (ra 2, .inl (kI, 8, .inl q_told))] := hDa
        clear hPa hDa
        refine W.widen (k := 0) (n := 0) (Nat.le_of_ble_eq_true rfl) (Nat.le_of_ble_eq_true rfl) ?_
        have hv8 := w31.2
        refine lv_istore_n (lv' := [(2, .int r30), (1, .int r16), (0, .ref m0)]) hx hb dX11_readLink_69 rfl hl (Nat.le_of_ble_eq_true rfl) rfl (fun ls hl => ?_)
        refine lv_aload_n hx hb dX11_readLink_70 rfl (lv_at hl 2 rfl) ?_
        refine va_get (D := (dC, dI)) (ci := 11) (v := .int (y32 8)) (C := RX11) (T := TX11) (N := 61) hx hb hts hin11 hown hK hP 3 rfl rfl 22 (Nat.le_of_ble_eq_true rfl) hw_1 (fun _ h9 => h9) rfl dX11_readLink_71 ?_
        refine lv_if_ne (tgt := 96) hx hb dX11_readLink_74 rfl (fun c40 => ?_) (fun c40 => ?_)
        · have b41 : iv 1 5 (y32 8) := iv_neLo c40 (hq33 8 : iv 0 5 (y32 8)) ivk_0 (by decide) (by decide)
          have hrr42 : RRd tT nN y32 (iteT (lnkB tT nN sS (q_told 4) (q_told 5) (shT 20 q_from) ≤ lnkA tT nN sS ∨ hasT (shT 20 q_from) (shT 20 q_to) (q_told 5) (lnkA tT nN sS) (lnkB tT nN sS (q_told 4) (q_told 5) (shT 20 q_from))) (failT 5 (lnk3 tT nN sS (q_told 4) (q_told 5) (shT 20 q_from))) (lnk3 tT nN sS (q_told 4) (q_told 5) (shT 20 q_from))) := ite_r hq36 c40 ▸ hq36
          refine lv_aload_n hx hb dX11_readLink_96 rfl (lv_at hl 2 rfl) ?_
          refine va_get (D := (dC, dI)) (ci := 11) (v := .int (y32 8)) (C := RX11) (T := TX11) (N := 61) hx hb hts hin11 hown hK hP 3 rfl rfl 22 (Nat.le_of_ble_eq_true rfl) hw_1 (fun _ h9 => h9) rfl dX11_readLink_97 ?_
          refine lv_if_eq (tgt := 104) hx hb dX11_readLink_100 rfl (fun c9 => absurd c9 (c40)) (fun _ => ?_)
          have hPD9 := cl_s (wc := [(m0, .inr (11, oX11 ra y32)), (ra 2, .inl (kI, 8, .inl q_told)), (ra 8, .inl (kI, 40, .inl q_from)), (ra 9, .inl (kI, 40, .inl q_to)), (ra 13, .inl (kI, 700, .inl q_tape))]) hP hD [3, 4, 0, 1, 2] rfl (by decide +kernel)
          have hP9 := hPD9.1
          have hD9 := hPD9.2
          exact W.vret hx hb hr (fun t ht hW => ⟨⟨(), rfl, trivial, y32, q_told, q_from, q_to, hq33, hq_told, hq_from, hq_to, (show (x0 2).toInt ≤ (y32 2).toInt from by omega), (show y32 3 = x0 3 from hq35.trans (hq21.trans (hq10))), (show ∀ j : Nat, (j : Int) < (q_told 1).toInt → (q_from j).toInt < (q_to j).toInt from hLT), (show ∀ j : Nat, (j : Int) < (q_told 5).toInt → (q_from (20 + j)).toInt < (q_to (20 + j)).toInt from hLD), (show RRd tT nN y32 (lnkS tT nN sS (q_told 4) (q_told 5) (shT 20 q_from) (shT 20 q_to)) from it_f (Q := RRd tT nN y32) c1 ((rr_stepN hrr42 c40))), (show y32 8 = 0 → q_told = upd q_told 5 (q_told 5 + 1) ∧ q_from = upd q_from ((20 + (q_told 5)).toNatClampNeg) (lnkA tT nN sS) ∧ q_to = upd q_to ((20 + (q_told 5)).toNatClampNeg) (lnkB tT nN sS (q_told 4) (q_told 5) (shT 20 q_from)) from fun w => absurd w c40), (show y32 1 = x0 1 from hq37.trans (hq23.trans (hq13))), (show y32 10 = x0 10 from hq38.trans (hq24.trans (hq14))), (show y32 23 = x0 23 from hq39.trans (hq25.trans (hq15))), by rw [ht]; exact hP9, hD9⟩, hS.F ht⟩) hS.2.2 dX11_readLink_103
        · have b43 : iv 0 0 (y32 8) := iv_eqL c40 ivk_0
          refine lv_iload_n hx hb dX11_readLink_77 rfl (lv_at hl 0 rfl) ?_
          refine lv_iload_n hx hb dX11_readLink_78 rfl (lv_at hl 1 rfl) ?_
          refine lv_icmp_le (tgt := 91) hx hb dX11_readLink_79 rfl (fun c44 => ?_) (fun c44 => ?_)
          · refine lv_aload_n hx hb dX11_readLink_91 rfl (lv_at hl 2 rfl) ?_
            refine lv_iconst (v := 5) hx hb dX11_readLink_92 ic_5 ?_
            obtain ⟨hPc, hDc, hFc, hJn⟩ := cl_a (wc := [(m0, .inr (11, oX11 ra y32))]) (wr := [(ra 8, .inl (kI, 40, .inl q_from)), (ra 9, .inl (kI, 40, .inl q_to)), (ra 13, .inl (kI, 700, .inl q_tape)), (ra 2, .inl (kI, 8, .inl q_told))]) hP hD hS hA [3] [0, 1, 2, 4] rfl rfl (by decide +kernel)
            refine va_callv (va_runV (As := [.int 5]) (rest := []) ⟨hx, hb, hml, hown, hts⟩ (s11_wrong l dC dI kB kI kJ kZ kC kS H.size m0 ra y32 5 tT nN (rouT tT (q_told 4) (lnk2 tT nN sS (q_told 4) (q_told 5) (shT 20 q_from))) (hq33) ((iv_w ivk_5 (by decide) (by decide))) (hq36)) (cwV 1 hts gX11_readLink_X11_wrong rfl rfl rfl (by decide +kernel) ⟨Nat.le_of_ble_eq_true rfl, Nat.le_of_ble_eq_true rfl⟩) ⟨fun a U g mk q => by obtain ⟨q0, q1, qP, qE, qD⟩ := q; exact ⟨q0, q1, qP, kE_call qE, qD⟩, va_recv hK hP (ci := 11) (q0 := 3) rfl rfl, fun U hU hW => ⟨rfl, by rw [hU], by rw [hU]; exact hPc, kE_warm hW hE, hDc.weaken (fun _ _ _ _ => trivial)⟩⟩ rfl rfl hl.1 rfl (lv_room (Nat.le_of_ble_eq_true rfl)) dX11_readLink_93 ⟨Nat.le_of_ble_eq_true rfl, Nat.le_of_ble_eq_true rfl⟩) hS (fun q _ h => hFc q h) hFc (fun u t H locs ht hvm w46 hB hz1 hk1 hS => ?_)
            obtain ⟨y47, hq48, hq49, hq50, hq51, hq52, hq53, hq54, hq55, hP1, hD1⟩ := hB
            try dsimp only at w46
            obtain ⟨hPa, hDa⟩ := hJn (w1 := [(m0, .inr (11, oX11 ra y47))]) hk1 ht hP1 hD1
            clear hP hD hPc hDc hFc hJn hP1 hD1 hk1
            have hP : va_P (dC, dI) vwCl [(ra 8, .inl (kI, 40, .inl q_from)), (ra 9, .inl (kI, 40, .inl q_to)), (ra 13, .inl (kI, 700, .inl q_tape)), (ra 2, .inl (kI, 8, .inl q_told)), (m0, .inr (11, oX11 ra y47))] H := hPa
            have hD : va_D A [(ra 8, .inl (kI, 40, .inl q_from)), (ra 9, .inl (kI, 40, .inl q_to)), (ra 13, .inl (kI, 700, .inl q_tape)), (ra 2, .inl (kI, 8, .inl q_told)), (m0, .inr (11, oX11 ra y47))] := hDa
            clear hPa hDa
            refine W.widen (k := 0) (n := 0) (Nat.le_of_ble_eq_true rfl) (Nat.le_of_ble_eq_true rfl) ?_
            have hok9 := rr_ok hq36 c40
            have hb9 := hv8 hok9
            have ha9 := hv9 (ok_ite (ok_next (ok_num (ok_rou hok9)))).1
            have hrr56 : RRd tT nN y47 (iteT (lnkB tT nN sS (q_told 4) (q_told 5) (shT 20 q_from) ≤ lnkA tT nN sS ∨ hasT (shT 20 q_from) (shT 20 q_to) (q_told 5) (lnkA tT nN sS) (lnkB tT nN sS (q_told 4) (q_told 5) (shT 20 q_from))) (failT 5 (lnk3 tT nN sS (q_told 4) (q_told 5) (shT 20 q_from))) (lnk3 tT nN sS (q_told 4) (q_told 5) (shT 20 q_from))) := it_t (Q := RRd tT nN y47) (Or.inl (by have q := c44; rw [ha9, hb9] at q; exact q)) (hq52)
            refine lv_aload_n hx hb dX11_readLink_96 rfl (lv_at hl 2 rfl) ?_
            refine va_get (D := (dC, dI)) (ci := 11) (v := .int (y47 8)) (C := RX11) (T := TX11) (N := 61) hx hb hts hin11 hown hK hP 4 rfl rfl 22 (Nat.le_of_ble_eq_true rfl) hw_1 (fun _ h9 => h9) rfl dX11_readLink_97 ?_
            refine lv_if_eq (tgt := 104) hx hb dX11_readLink_100 rfl (fun c9 => absurd c9 (iv_ne hq49 ivk_0 (by decide))) (fun _ => ?_)
            have hPD9 := cl_s (wc := [(m0, .inr (11, oX11 ra y47)), (ra 2, .inl (kI, 8, .inl q_told)), (ra 8, .inl (kI, 40, .inl q_from)), (ra 9, .inl (kI, 40, .inl q_to)), (ra 13, .inl (kI, 700, .inl q_tape))]) hP hD [4, 3, 0, 1, 2] rfl (by decide +kernel)
            have hP9 := hPD9.1
            have hD9 := hPD9.2
            exact W.vret hx hb hr (fun t ht hW => ⟨⟨(), rfl, trivial, y47, q_told, q_from, q_to, hq48, hq_told, hq_from, hq_to, (show (x0 2).toInt ≤ (y47 2).toInt from by omega), (show y47 3 = x0 3 from hq51.trans (hq35.trans (hq21.trans (hq10)))), (show ∀ j : Nat, (j : Int) < (q_told 1).toInt → (q_from j).toInt < (q_to j).toInt from hLT), (show ∀ j : Nat, (j : Int) < (q_told 5).toInt → (q_from (20 + j)).toInt < (q_to (20 + j)).toInt from hLD), (show RRd tT nN y47 (lnkS tT nN sS (q_told 4) (q_told 5) (shT 20 q_from) (shT 20 q_to)) from it_f (Q := RRd tT nN y47) c1 ((rr_stepN hrr56 (iv_ne hq49 ivk_0 (by decide))))), (show y47 8 = 0 → q_told = upd q_told 5 (q_told 5 + 1) ∧ q_from = upd q_from ((20 + (q_told 5)).toNatClampNeg) (lnkA tT nN sS) ∧ q_to = upd q_to ((20 + (q_told 5)).toNatClampNeg) (lnkB tT nN sS (q_told 4) (q_told 5) (shT 20 q_from)) from fun w => absurd w (iv_ne hq49 ivk_0 (by decide))), (show y47 1 = x0 1 from hq53.trans (hq37.trans (hq23.trans (hq13)))), (show y47 10 = x0 10 from hq54.trans (hq38.trans (hq24.trans (hq14)))), (show y47 23 = x0 23 from hq55.trans (hq39.trans (hq25.trans (hq15)))), by rw [ht]; exact hP9, hD9⟩, hS.F ht⟩) hS.2.2 dX11_readLink_103
          · have b57 : iv 0 10 r16 := iv_ltL (Int32.not_le.mp c44) w17.1 w31.1 (by decide) (by decide)
            have b58 : iv 1 11 r30 := iv_ltR (Int32.not_le.mp c44) w17.1 w31.1 (by decide) (by decide)
            refine lv_aload_n hx hb dX11_readLink_82 rfl (lv_at hl 2 rfl) ?_
            refine lv_iload_n hx hb dX11_readLink_83 rfl (lv_at hl 1 rfl) ?_
            refine lv_iload_n hx hb dX11_readLink_84 rfl (lv_at hl 0 rfl) ?_
            obtain ⟨hPc, hDc, hFc, hJn⟩ := cl_a (wc := [(m0, .inr (11, oX11 ra y32)), (ra 2, .inl (kI, 8, .inl q_told)), (ra 8, .inl (kI, 40, .inl q_from)), (ra 9, .inl (kI, 40, .inl q_to))]) (wr := [(ra 13, .inl (kI, 700, .inl q_tape))]) hP hD hS hA [3, 4, 0, 1] [2] rfl rfl (by decide +kernel)
            refine va_calli (va_runV (As := [.int r16, .int r30]) (rest := []) ⟨hx, hb, hml, hown, hts⟩ (s11_hasLink l dC dI kB kI kJ kZ kC kS H.size m0 ra y32 q_told q_from q_to r16 r30 (hq33) (hq_told) (hq_from) (hq_to)) (cwV 2 hts gX11_readLink_X11_hasLink rfl rfl rfl (by decide +kernel) ⟨Nat.le_of_ble_eq_true rfl, Nat.le_of_ble_eq_true rfl⟩) ⟨fun a U g mk q => by obtain ⟨q0, q1, qP, qE, qD⟩ := q; exact ⟨q0, q1, qP, kE_call qE, qD⟩, va_recv hK hP (ci := 11) (q0 := 3) rfl rfl, fun U hU hW => ⟨rfl, by rw [hU], by rw [hU]; exact hPc, kE_warm hW hE, hDc.weaken (fun _ _ _ _ => trivial)⟩⟩ rfl rfl hl.1 rfl (lv_room (Nat.le_of_ble_eq_true rfl)) dX11_readLink_85 ⟨Nat.le_of_ble_eq_true rfl, Nat.le_of_ble_eq_true rfl⟩) hS (fun q _ h => hFc q h) hFc (fun r59 u t H locs ht hvm w60 hB hz1 hk1 hS => ?_)
            obtain ⟨hP1, hD1⟩ := hB
            try dsimp only at w60
            obtain ⟨hPa, hDa⟩ := hJn (w1 := [(m0, .inr (11, oX11 ra y32)), (ra 2, .inl (kI, 8, .inl q_told)), (ra 8, .inl (kI, 40, .inl q_from)), (ra 9, .inl (kI, 40, .inl q_to))]) hk1 ht hP1 hD1
            clear hP hD hPc hDc hFc hJn hP1 hD1 hk1
            have hP : va_P (dC, dI) vwCl [(ra 13, .inl (kI, 700, .inl q_tape)), (m0, .inr (11, oX11 ra y32)), (ra 2, .inl (kI, 8, .inl q_told)), (ra 8, .inl (kI, 40, .inl q_from)), (ra 9, .inl (kI, 40, .inl q_to))] H := hPa
            have hD : va_D A [(ra 13, .inl (kI, 700, .inl q_tape)), (m0, .inr (11, oX11 ra y32)), (ra 2, .inl (kI, 8, .inl q_told)), (ra 8, .inl (kI, 40, .inl q_from)), (ra 9, .inl (kI, 40, .inl q_to))] := hDa
            clear hPa hDa
            refine W.widen (k := 0) (n := 0) (Nat.le_of_ble_eq_true rfl) (Nat.le_of_ble_eq_true rfl) ?_
            have hh9 := w60.2
            refine lv_if_eq (tgt := 96) hx hb dX11_readLink_88 rfl (fun c61 => ?_) (fun c61 => ?_)
            · have b62 : iv 0 0 r59 := iv_eqL c61 ivk_0
              have hok9 := rr_ok hq36 c40
              have hb9 := hv8 hok9
              have ha9 := hv9 (ok_ite (ok_next (ok_num (ok_rou hok9)))).1
              have hrr63 : RRd tT nN y32 (iteT (lnkB tT nN sS (q_told 4) (q_told 5) (shT 20 q_from) ≤ lnkA tT nN sS ∨ hasT (shT 20 q_from) (shT 20 q_to) (q_told 5) (lnkA tT nN sS) (lnkB tT nN sS (q_told 4) (q_told 5) (shT 20 q_from))) (failT 5 (lnk3 tT nN sS (q_told 4) (q_told 5) (shT 20 q_from))) (lnk3 tT nN sS (q_told 4) (q_told 5) (shT 20 q_from))) := it_f (Q := RRd tT nN y32) (by have q := (hh9.resolve_right (fun w => w.1 c61)).2; have q2 := Int32.not_le.mpr (Int32.not_le.mp c44); rw [ha9, hb9] at q q2; exact fun w => w.elim q2 q) (hq36)
              refine lv_aload_n hx hb dX11_readLink_96 rfl (lv_at hl 2 rfl) ?_
              refine va_get (D := (dC, dI)) (ci := 11) (v := .int (y32 8)) (C := RX11) (T := TX11) (N := 61) hx hb hts hin11 hown hK hP 1 rfl rfl 22 (Nat.le_of_ble_eq_true rfl) hw_1 (fun _ h9 => h9) rfl dX11_readLink_97 ?_
              refine lv_if_eq (tgt := 104) hx hb dX11_readLink_100 rfl (fun _ => ?_) (fun c9 => absurd (c40) c9)
              refine lv_aload_n hx hb dX11_readLink_104 rfl (lv_at hl 2 rfl) ?_
              obtain ⟨hPc, hDc, hFc, hJn⟩ := cl_a (wc := [(m0, .inr (11, oX11 ra y32)), (ra 13, .inl (kI, 700, .inl q_tape))]) (wr := [(ra 2, .inl (kI, 8, .inl q_told)), (ra 8, .inl (kI, 40, .inl q_from)), (ra 9, .inl (kI, 40, .inl q_to))]) hP hD hS hA [1, 0] [2, 3, 4] rfl rfl (by decide +kernel)
              refine va_callv (va_runV (As := []) (rest := []) ⟨hx, hb, hml, hown, hts⟩ (s11_stepOn l dC dI kB kI kJ kZ kC kS H.size m0 ra y32 q_tape tT nN (nextT tT nN (iteT (lnkB tT nN sS (q_told 4) (q_told 5) (shT 20 q_from) ≤ lnkA tT nN sS ∨ hasT (shT 20 q_from) (shT 20 q_to) (q_told 5) (lnkA tT nN sS) (lnkB tT nN sS (q_told 4) (q_told 5) (shT 20 q_from))) (failT 5 (lnk3 tT nN sS (q_told 4) (q_told 5) (shT 20 q_from))) (lnk3 tT nN sS (q_told 4) (q_told 5) (shT 20 q_from)))) (hq33) (hq_tape) (hrr63.2) (stp_of hrr63) (hTQ)) (cwV 0 hts gX11_readLink_X11_stepOn rfl rfl rfl (by decide +kernel) ⟨Nat.le_of_ble_eq_true rfl, Nat.le_of_ble_eq_true rfl⟩) ⟨fun a U g mk q => by obtain ⟨q0, q1, qP, qE, qD⟩ := q; exact ⟨q0, q1, qP, kE_call qE, qD⟩, va_recv hK hP (ci := 11) (q0 := 1) rfl rfl, fun U hU hW => ⟨rfl, by rw [hU], by rw [hU]; exact hPc, kE_warm hW hE, hDc.weaken (fun _ _ _ _ => trivial)⟩⟩ rfl rfl hl.1 rfl (lv_room (Nat.le_of_ble_eq_true rfl)) dX11_readLink_105 ⟨Nat.le_of_ble_eq_true rfl, Nat.le_of_ble_eq_true rfl⟩) hS (fun q _ h => hFc q h) hFc (fun u t H locs ht hvm w65 hB hz1 hk1 hS => ?_)
              obtain ⟨y66, hq67, hq68, hq69, hq70, hq71, hq72, hq73, hq74, hP1, hD1⟩ := hB
              try dsimp only at w65
              obtain ⟨hPa, hDa⟩ := hJn (w1 := [(m0, .inr (11, oX11 ra y66)), (ra 13, .inl (kI, 700, .inl q_tape))]) hk1 ht hP1 hD1
              clear hP hD hPc hDc hFc hJn hP1 hD1 hk1
              have hP : va_P (dC, dI) vwCl [(ra 2, .inl (kI, 8, .inl q_told)), (ra 8, .inl (kI, 40, .inl q_from)), (ra 9, .inl (kI, 40, .inl q_to)), (m0, .inr (11, oX11 ra y66)), (ra 13, .inl (kI, 700, .inl q_tape))] H := hPa
              have hD : va_D A [(ra 2, .inl (kI, 8, .inl q_told)), (ra 8, .inl (kI, 40, .inl q_from)), (ra 9, .inl (kI, 40, .inl q_to)), (m0, .inr (11, oX11 ra y66)), (ra 13, .inl (kI, 700, .inl q_tape))] := hDa
              clear hPa hDa
              refine W.widen (k := 0) (n := 0) (Nat.le_of_ble_eq_true rfl) (Nat.le_of_ble_eq_true rfl) ?_
              refine lv_aload_n hx hb dX11_readLink_108 rfl (lv_at hl 2 rfl) ?_
              refine va_get (D := (dC, dI)) (ci := 11) (v := .ref (ra 8)) (C := RX11) (T := TX11) (N := 61) hx hb hts hin11 hown hK hP 3 rfl rfl 9 (Nat.le_of_ble_eq_true rfl) hw_2 (fun _ h9 => h9) rfl dX11_readLink_109 ?_
              refine lv_bipush (v := 20) hx hb dX11_readLink_112 bp_20 ?_
              refine lv_aload_n hx hb dX11_readLink_114 rfl (lv_at hl 2 rfl) ?_
              refine va_get (D := (dC, dI)) (ci := 11) (v := .ref (ra 2)) (C := RX11) (T := TX11) (N := 61) hx hb hts hin11 hown hK hP 3 rfl rfl 3 (Nat.le_of_ble_eq_true rfl) hw_0 (fun _ h9 => h9) rfl dX11_readLink_115 ?_
              refine lv_iconst (v := 5) hx hb dX11_readLink_118 ic_5 ?_
              refine va_iald hx hb hK hP 0 1 rfl rfl (vp_in_nI (n := 5) (by decide) (by decide)) dX11_readLink_119 ?_
              refine W.eq (g2 := F0 m 120 ls [.int (q_told 5), .int 20, .ref (ra 8)]) rfl ?_
              refine lv_iadd hx hb dX11_readLink_120 ?_
              have b75 : iv 20 39 (20 + (q_told 5)) := iv_add ivk_20 b2 (by decide) (by decide) (by decide) (by decide)
              refine lv_iload_n hx hb dX11_readLink_121 rfl (lv_at hl 1 rfl) ?_
              refine va_iast hx hb hK hP hD hS 1 1 rfl rfl (iv_in b75 (by decide) (by decide)) dX11_readLink_122 (fun H locs hPa hDa hS => ?_)
              clear hP hD
              have hP : va_P (dC, dI) vwCl [(ra 2, .inl (kI, 8, .inl q_told)), (ra 8, .inl (kI, 40, .inl (upd q_from (20 + (q_told 5)).toNatClampNeg r16))), (ra 9, .inl (kI, 40, .inl q_to)), (m0, .inr (11, oX11 ra y66)), (ra 13, .inl (kI, 700, .inl q_tape))] H := hPa
              have hD : va_D A [(ra 2, .inl (kI, 8, .inl q_told)), (ra 8, .inl (kI, 40, .inl (upd q_from (20 + (q_told 5)).toNatClampNeg r16))), (ra 9, .inl (kI, 40, .inl q_to)), (m0, .inr (11, oX11 ra y66)), (ra 13, .inl (kI, 700, .inl q_tape))] := hDa
              clear hPa hDa
              refine lv_aload_n hx hb dX11_readLink_123 rfl (lv_at hl 2 rfl) ?_
              refine va_get (D := (dC, dI)) (ci := 11) (v := .ref (ra 9)) (C := RX11) (T := TX11) (N := 61) hx hb hts hin11 hown hK hP 3 rfl rfl 10 (Nat.le_of_ble_eq_true rfl) hw_3 (fun _ h9 => h9) rfl dX11_readLink_124 ?_
              refine lv_bipush (v := 20) hx hb dX11_readLink_127 bp_20 ?_
              refine lv_aload_n hx hb dX11_readLink_129 rfl (lv_at hl 2 rfl) ?_
              refine va_get (D := (dC, dI)) (ci := 11) (v := .ref (ra 2)) (C := RX11) (T := TX11) (N := 61) hx hb hts hin11 hown hK hP 3 rfl rfl 3 (Nat.le_of_ble_eq_true rfl) hw_0 (fun _ h9 => h9) rfl dX11_readLink_130 ?_
              refine lv_iconst (v := 5) hx hb dX11_readLink_133 ic_5 ?_
              refine va_iald hx hb hK hP 0 1 rfl rfl (vp_in_nI (n := 5) (by decide) (by decide)) dX11_readLink_134 ?_
              refine W.eq (g2 := F0 m 135 ls [.int (q_told 5), .int 20, .ref (ra 9)]) rfl ?_
              refine lv_iadd hx hb dX11_readLink_135 ?_
              have b76 : iv 20 39 (20 + (q_told 5)) := iv_add ivk_20 b2 (by decide) (by decide) (by decide) (by decide)
              refine lv_iload_n hx hb dX11_readLink_136 rfl (lv_at hl 0 rfl) ?_
              refine va_iast hx hb hK hP hD hS 2 1 rfl rfl (iv_in b76 (by decide) (by decide)) dX11_readLink_137 (fun H locs hPa hDa hS => ?_)
              clear hP hD
              have hP : va_P (dC, dI) vwCl [(ra 2, .inl (kI, 8, .inl q_told)), (ra 8, .inl (kI, 40, .inl (upd q_from (20 + (q_told 5)).toNatClampNeg r16))), (ra 9, .inl (kI, 40, .inl (upd q_to (20 + (q_told 5)).toNatClampNeg r30))), (m0, .inr (11, oX11 ra y66)), (ra 13, .inl (kI, 700, .inl q_tape))] H := hPa
              have hD : va_D A [(ra 2, .inl (kI, 8, .inl q_told)), (ra 8, .inl (kI, 40, .inl (upd q_from (20 + (q_told 5)).toNatClampNeg r16))), (ra 9, .inl (kI, 40, .inl (upd q_to (20 + (q_told 5)).toNatClampNeg r30))), (m0, .inr (11, oX11 ra y66)), (ra 13, .inl (kI, 700, .inl q_tape))] := hDa
              clear hPa hDa
              refine lv_aload_n hx hb dX11_readLink_138 rfl (lv_at hl 2 rfl) ?_
              refine va_get (D := (dC, dI)) (ci := 11) (v := .ref (ra 2)) (C := RX11) (T := TX11) (N := 61) hx hb hts hin11 hown hK hP 3 rfl rfl 3 (Nat.le_of_ble_eq_true rfl) hw_0 (fun _ h9 => h9) rfl dX11_readLink_139 ?_
              refine lv_iconst (v := 5) hx hb dX11_readLink_142 ic_5 ?_
              refine lv_dup2_11 hx hb dX11_readLink_143 rfl rfl ?_
              refine va_iald hx hb hK hP 0 1 rfl rfl (vp_in_nI (n := 5) (by decide) (by decide)) dX11_readLink_144 ?_
              refine W.eq (g2 := F0 m 145 ls [.int (q_told 5), .int 5, .ref (ra 2)]) rfl ?_
              refine lv_iconst (v := 1) hx hb dX11_readLink_145 ic_1 ?_
              refine lv_iadd hx hb dX11_readLink_146 ?_
              have b77 : iv 1 20 ((q_told 5) + 1) := iv_add b2 ivk_1 (by decide) (by decide) (by decide) (by decide)
              refine va_iast hx hb hK hP hD hS 0 1 rfl rfl (vp_in_nI (n := 5) (by decide) (by decide)) dX11_readLink_147 (fun H locs hPa hDa hS => ?_)
              clear hP hD
              have hP : va_P (dC, dI) vwCl [(ra 2, .inl (kI, 8, .inl (upd q_told 5 ((q_told 5) + 1)))), (ra 8, .inl (kI, 40, .inl (upd q_from (20 + (q_told 5)).toNatClampNeg r16))), (ra 9, .inl (kI, 40, .inl (upd q_to (20 + (q_told 5)).toNatClampNeg r30))), (m0, .inr (11, oX11 ra y66)), (ra 13, .inl (kI, 700, .inl q_tape))] H := hPa
              have hD : va_D A [(ra 2, .inl (kI, 8, .inl (upd q_told 5 ((q_told 5) + 1)))), (ra 8, .inl (kI, 40, .inl (upd q_from (20 + (q_told 5)).toNatClampNeg r16))), (ra 9, .inl (kI, 40, .inl (upd q_to (20 + (q_told 5)).toNatClampNeg r30))), (m0, .inr (11, oX11 ra y66)), (ra 13, .inl (kI, 700, .inl q_tape))] := hDa
              clear hPa hDa
              have hPD9 := cl_s (wc := [(m0, .inr (11, oX11 ra y66)), (ra 2, .inl (kI, 8, .inl (upd q_told 5 ((q_told 5) + 1)))), (ra 8, .inl (kI, 40, .inl (upd q_from (20 + (q_told 5)).toNatClampNeg r16))), (ra 9, .inl (kI, 40, .inl (upd q_to (20 + (q_told 5)).toNatClampNeg r30))), (ra 13, .inl (kI, 700, .inl q_tape))]) hP hD [3, 0, 1, 2, 4] rfl (by decide +kernel)
              have hP9 := hPD9.1
              have hD9 := hPD9.2
              exact W.vret hx hb hr (fun t ht hW => ⟨⟨(), rfl, trivial, y66, upd q_told 5 ((q_told 5) + 1), upd q_from (20 + (q_told 5)).toNatClampNeg r16, upd q_to (20 + (q_told 5)).toNatClampNeg r30, hq67, (fI_u hq_told (k := 5) ((iv_w b77 (by decide) (by decide)))), (fI_u hq_from (k := (20 + (q_told 5)).toNatClampNeg) ((iv_w b57 (by decide) (by decide)))), (fI_u hq_to (k := (20 + (q_told 5)).toNatClampNeg) ((iv_w b58 (by decide) (by decide)))), (show (x0 2).toInt ≤ (y66 2).toInt from by omega), (show y66 3 = x0 3 from hq69.trans (hq35.trans (hq21.trans (hq10)))), lk_lt hLT (hq_told 1) (hq_told 5), lk_ld hLD b2 (Int32.not_le.mp c44), (show RRd tT nN y66 (lnkS tT nN sS (q_told 4) (q_told 5) (shT 20 q_from) (shT 20 q_to)) from it_f (Q := RRd tT nN y66) c1 (hq71)), fun _ => ⟨rfl, congrArg (upd q_from ((20 + (q_told 5)).toNatClampNeg)) (hv9 (ok_ite (ok_next (ok_num (ok_rou (ok_ite (rr_ok hrr63 c40)).1)))).1), congrArg (upd q_to ((20 + (q_told 5)).toNatClampNeg)) (hv8 (ok_ite (rr_ok hrr63 c40)).1)⟩, (show y66 1 = x0 1 from hq72.trans (hq37.trans (hq23.trans (hq13)))), (show y66 10 = x0 10 from hq73.trans (hq38.trans (hq24.trans (hq14)))), (show y66 23 = x0 23 from hq74.trans (hq39.trans (hq25.trans (hq15)))), by rw [ht]; exact hP9, hD9⟩, hS.F ht⟩) hS.2.2 dX11_readLink_148
            · have b78 : iv 1 1 r59 := iv_neLo c61 w60.1 ivk_0 (by decide) (by decide)
              refine lv_aload_n hx hb dX11_readLink_91 rfl (lv_at hl 2 rfl) ?_
              refine lv_iconst (v := 5) hx hb dX11_readLink_92 ic_5 ?_
              obtain ⟨hPc, hDc, hFc, hJn⟩ := cl_a (wc := [(m0, .inr (11, oX11 ra y32))]) (wr := [(ra 13, .inl (kI, 700, .inl q_tape)), (ra 2, .inl (kI, 8, .inl q_told)), (ra 8, .inl (kI, 40, .inl q_from)), (ra 9, .inl (kI, 40, .inl q_to))]) hP hD hS hA [1] [0, 2, 3, 4] rfl rfl (by decide +kernel)
              refine va_callv (va_runV (As := [.int 5]) (rest := []) ⟨hx, hb, hml, hown, hts⟩ (s11_wrong l dC dI kB kI kJ kZ kC kS H.size m0 ra y32 5 tT nN (rouT tT (q_told 4) (lnk2 tT nN sS (q_told 4) (q_told 5) (shT 20 q_from))) (hq33) ((iv_w ivk_5 (by decide) (by decide))) (hq36)) (cwV 1 hts gX11_readLink_X11_wrong rfl rfl rfl (by decide +kernel) ⟨Nat.le_of_ble_eq_true rfl, Nat.le_of_ble_eq_true rfl⟩) ⟨fun a U g mk q => by obtain ⟨q0, q1, qP, qE, qD⟩ := q; exact ⟨q0, q1, qP, kE_call qE, qD⟩, va_recv hK hP (ci := 11) (q0 := 1) rfl rfl, fun U hU hW => ⟨rfl, by rw [hU], by rw [hU]; exact hPc, kE_warm hW hE, hDc.weaken (fun _ _ _ _ => trivial)⟩⟩ rfl rfl hl.1 rfl (lv_room (Nat.le_of_ble_eq_true rfl)) dX11_readLink_93 ⟨Nat.le_of_ble_eq_true rfl, Nat.le_of_ble_eq_true rfl⟩) hS (fun q _ h => hFc q h) hFc (fun u t H locs ht hvm w80 hB hz1 hk1 hS => ?_)
              obtain ⟨y81, hq82, hq83, hq84, hq85, hq86, hq87, hq88, hq89, hP1, hD1⟩ := hB
              try dsimp only at w80
              obtain ⟨hPa, hDa⟩ := hJn (w1 := [(m0, .inr (11, oX11 ra y81))]) hk1 ht hP1 hD1
              clear hP hD hPc hDc hFc hJn hP1 hD1 hk1
              have hP : va_P (dC, dI) vwCl [(ra 13, .inl (kI, 700, .inl q_tape)), (ra 2, .inl (kI, 8, .inl q_told)), (ra 8, .inl (kI, 40, .inl q_from)), (ra 9, .inl (kI, 40, .inl q_to)), (m0, .inr (11, oX11 ra y81))] H := hPa
              have hD : va_D A [(ra 13, .inl (kI, 700, .inl q_tape)), (ra 2, .inl (kI, 8, .inl q_told)), (ra 8, .inl (kI, 40, .inl q_from)), (ra 9, .inl (kI, 40, .inl q_to)), (m0, .inr (11, oX11 ra y81))] := hDa
              clear hPa hDa
              refine W.widen (k := 0) (n := 0) (Nat.le_of_ble_eq_true rfl) (Nat.le_of_ble_eq_true rfl) ?_
              have hok9 := rr_ok hq36 c40
              have hb9 := hv8 hok9
              have ha9 := hv9 (ok_ite (ok_next (ok_num (ok_rou hok9)))).1
              have hrr90 : RRd tT nN y81 (iteT (lnkB tT nN sS (q_told 4) (q_told 5) (shT 20 q_from) ≤ lnkA tT nN sS ∨ hasT (shT 20 q_from) (shT 20 q_to) (q_told 5) (lnkA tT nN sS) (lnkB tT nN sS (q_told 4) (q_told 5) (shT 20 q_from))) (failT 5 (lnk3 tT nN sS (q_told 4) (q_told 5) (shT 20 q_from))) (lnk3 tT nN sS (q_told 4) (q_told 5) (shT 20 q_from))) := it_t (Q := RRd tT nN y81) (Or.inr (by have q := (hh9.resolve_left (fun w => c61 w.1)).2; rw [ha9, hb9] at q; exact q)) (hq86)
              refine lv_aload_n hx hb dX11_readLink_96 rfl (lv_at hl 2 rfl) ?_
              refine va_get (D := (dC, dI)) (ci := 11) (v := .int (y81 8)) (C := RX11) (T := TX11) (N := 61) hx hb hts hin11 hown hK hP 4 rfl rfl 22 (Nat.le_of_ble_eq_true rfl) hw_1 (fun _ h9 => h9) rfl dX11_readLink_97 ?_
              refine lv_if_eq (tgt := 104) hx hb dX11_readLink_100 rfl (fun c9 => absurd c9 (iv_ne hq83 ivk_0 (by decide))) (fun _ => ?_)
              have hPD9 := cl_s (wc := [(m0, .inr (11, oX11 ra y81)), (ra 2, .inl (kI, 8, .inl q_told)), (ra 8, .inl (kI, 40, .inl q_from)), (ra 9, .inl (kI, 40, .inl q_to)), (ra 13, .inl (kI, 700, .inl q_tape))]) hP hD [4, 1, 2, 3, 0] rfl (by decide +kernel)
              have hP9 := hPD9.1
              have hD9 := hPD9.2
              exact W.vret hx hb hr (fun t ht hW => ⟨⟨(), rfl, trivial, y81, q_told, q_from, q_to, hq82, hq_told, hq_from, hq_to, (show (x0 2).toInt ≤ (y81 2).toInt from by omega), (show y81 3 = x0 3 from hq85.trans (hq35.trans (hq21.trans (hq10)))), (show ∀ j : Nat, (j : Int) < (q_told 1).toInt → (q_from j).toInt < (q_to j).toInt from hLT), (show ∀ j : Nat, (j : Int) < (q_told 5).toInt → (q_from (20 + j)).toInt < (q_to (20 + j)).toInt from hLD), (show RRd tT nN y81 (lnkS tT nN sS (q_told 4) (q_told 5) (shT 20 q_from) (shT 20 q_to)) from it_f (Q := RRd tT nN y81) c1 ((rr_stepN hrr90 (iv_ne hq83 ivk_0 (by decide))))), (show y81 8 = 0 → q_told = upd q_told 5 (q_told 5 + 1) ∧ q_from = upd q_from ((20 + (q_told 5)).toNatClampNeg) (lnkA tT nN sS) ∧ q_to = upd q_to ((20 + (q_told 5)).toNatClampNeg) (lnkB tT nN sS (q_told 4) (q_told 5) (shT 20 q_from)) from fun w => absurd w (iv_ne hq83 ivk_0 (by decide))), (show y81 1 = x0 1 from hq87.trans (hq37.trans (hq23.trans (hq13)))), (show y81 10 = x0 10 from hq88.trans (hq38.trans (hq24.trans (hq14)))), (show y81 23 = x0 23 from hq89.trans (hq39.trans (hq25.trans (hq15)))), by rw [ht]; exact hP9, hD9⟩, hS.F ht⟩) hS.2.2 dX11_readLink_103
      · have b91 : iv 0 0 (y18 8) := iv_eqL c26 ivk_0
        refine lv_aload_n hx hb dX11_readLink_40 rfl (lv_at hl 1 rfl) ?_
        refine lv_iload_n hx hb dX11_readLink_41 rfl (lv_at hl 0 rfl) ?_
        obtain ⟨hPc, hDc, hFc, hJn⟩ := cl_a (wc := [(m0, .inr (11, oX11 ra y18)), (ra 2, .inl (kI, 8, .inl q_told)), (ra 8, .inl (kI, 40, .inl q_from))]) (wr := [(ra 9, .inl (kI, 40, .inl q_to)), (ra 13, .inl (kI, 700, .inl q_tape))]) hP hD hS hA [3, 4, 0] [1, 2] rfl rfl (by decide +kernel)
        refine va_calli (va_runV (As := [.int r16]) (rest := []) ⟨hx, hb, hml, hown, hts⟩ (s11_linksFrom l dC dI kB kI kJ kZ kC kS H.size m0 ra y18 q_told q_from r16 (hq19) (hq_told) (hq_from)) (cwV 1 hts gX11_readLink_X11_linksFrom rfl rfl rfl (by decide +kernel) ⟨Nat.le_of_ble_eq_true rfl, Nat.le_of_ble_eq_true rfl⟩) ⟨fun a U g mk q => by obtain ⟨q0, q1, qP, qE, qD⟩ := q; exact ⟨q0, q1, qP, kE_call qE, qD⟩, va_recv hK hP (ci := 11) (q0 := 3) rfl rfl, fun U hU hW => ⟨rfl, by rw [hU], by rw [hU]; exact hPc, kE_warm hW hE, hDc.weaken (fun _ _ _ _ => trivial)⟩⟩ rfl rfl hl.1 rfl (lv_room (Nat.le_of_ble_eq_true rfl)) dX11_readLink_42 ⟨Nat.le_of_ble_eq_true rfl, Nat.le_of_ble_eq_true rfl⟩) hS (fun q _ h => hFc q h) hFc (fun r92 u t H locs ht hvm w93 hB hz1 hk1 hS => ?_)
        obtain ⟨hP1, hD1⟩ := hB
        try dsimp only at w93
        obtain ⟨hPa, hDa⟩ := hJn (w1 := [(m0, .inr (11, oX11 ra y18)), (ra 2, .inl (kI, 8, .inl q_told)), (ra 8, .inl (kI, 40, .inl q_from))]) hk1 ht hP1 hD1
        clear hP hD hPc hDc hFc hJn hP1 hD1 hk1
        have hP : va_P (dC, dI) vwCl [(ra 9, .inl (kI, 40, .inl q_to)), (ra 13, .inl (kI, 700, .inl q_tape)), (m0, .inr (11, oX11 ra y18)), (ra 2, .inl (kI, 8, .inl q_told)), (ra 8, .inl (kI, 40, .inl q_from))] H := hPa
        have hD : va_D A [(ra 9, .inl (kI, 40, .inl q_to)), (ra 13, .inl (kI, 700, .inl q_tape)), (m0, .inr (11, oX11 ra y18)), (ra 2, .inl (kI, 8, .inl q_told)), (ra 8, .inl (kI, 40, .inl q_from))] := hDa
        clear hPa hDa
        refine W.widen (k := 0) (n := 0) (Nat.le_of_ble_eq_true rfl) (Nat.le_of_ble_eq_true rfl) ?_
        obtain ⟨w93, b94⟩ := w93
        subst w93
        refine lv_iconst (v := 4) hx hb dX11_readLink_45 ic_4 ?_
        refine lv_icmp_ne (tgt := 54) hx hb dX11_readLink_46 rfl (fun c95 => ?_) (fun c95 => ?_)
        · have ha9 := hv9 (rr_ok hq22 c26)
          have hrr96 : RRd tT nN y18 (iteT (cntT (shT 20 q_from) (lnkA tT nN sS) (q_told 5).toNatClampNeg = 4) (failT 2 (lnk1 tT nN sS (q_told 4))) (lnk1 tT nN sS (q_told 4))) := it_f (Q := RRd tT nN y18) (by have q := c95; rw [ha9] at q; exact ct_4n q) (hq22)
          refine lv_aload_n hx hb dX11_readLink_54 rfl (lv_at hl 1 rfl) ?_
          refine va_get (D := (dC, dI)) (ci := 11) (v := .int (y18 8)) (C := RX11) (T := TX11) (N := 61) hx hb hts hin11 hown hK hP 2 rfl rfl 22 (Nat.le_of_ble_eq_true rfl) hw_1 (fun _ h9 => h9) rfl dX11_readLink_55 ?_
          refine lv_if_ne (tgt := 65) hx hb dX11_readLink_58 rfl (fun c9 => absurd (c26) c9) (fun _ => ?_)
          refine lv_aload_n hx hb dX11_readLink_61 rfl (lv_at hl 1 rfl) ?_
          obtain ⟨hPc, hDc, hFc, hJn⟩ := cl_a (wc := [(m0, .inr (11, oX11 ra y18)), (ra 13, .inl (kI, 700, .inl q_tape))]) (wr := [(ra 9, .inl (kI, 40, .inl q_to)), (ra 2, .inl (kI, 8, .inl q_told)), (ra 8, .inl (kI, 40, .inl q_from))]) hP hD hS hA [2, 1] [0, 3, 4] rfl rfl (by decide +kernel)
          refine va_callv (va_runV (As := []) (rest := []) ⟨hx, hb, hml, hown, hts⟩ (s11_stepOn l dC dI kB kI kJ kZ kC kS H.size m0 ra y18 q_tape tT nN (nextT tT nN (iteT (cntT (shT 20 q_from) (lnkA tT nN sS) (q_told 5).toNatClampNeg = 4) (failT 2 (lnk1 tT nN sS (q_told 4))) (lnk1 tT nN sS (q_told 4)))) (hq19) (hq_tape) (hrr96.2) (stp_of hrr96) (hTQ)) (cwV 0 hts gX11_readLink_X11_stepOn rfl rfl rfl (by decide +kernel) ⟨Nat.le_of_ble_eq_true rfl, Nat.le_of_ble_eq_true rfl⟩) ⟨fun a U g mk q => by obtain ⟨q0, q1, qP, qE, qD⟩ := q; exact ⟨q0, q1, qP, kE_call qE, qD⟩, va_recv hK hP (ci := 11) (q0 := 2) rfl rfl, fun U hU hW => ⟨rfl, by rw [hU], by rw [hU]; exact hPc, kE_warm hW hE, hDc.weaken (fun _ _ _ _ => trivial)⟩⟩ rfl rfl hl.1 rfl (lv_room (Nat.le_of_ble_eq_true rfl)) dX11_readLink_62 ⟨Nat.le_of_ble_eq_true rfl, Nat.le_of_ble_eq_true rfl⟩) hS (fun q _ h => hFc q h) hFc (fun u t H locs ht hvm w98 hB hz1 hk1 hS => ?_)
          obtain ⟨y99, hq100, hq101, hq102, hq103, hq104, hq105, hq106, hq107, hP1, hD1⟩ := hB
          try dsimp only at w98
          obtain ⟨hPa, hDa⟩ := hJn (w1 := [(m0, .inr (11, oX11 ra y99)), (ra 13, .inl (kI, 700, .inl q_tape))]) hk1 ht hP1 hD1
          clear hP hD hPc hDc hFc hJn hP1 hD1 hk1
          have hP : va_P (dC, dI) vwCl [(ra 9, .inl (kI, 40, .inl q_to)), (ra 2, .inl (kI, 8, .inl q_told)), (ra 8, .inl (kI, 40, .inl q_from)), (m0, .inr (11, oX11 ra y99)), (ra 13, .inl (kI, 700, .inl q_tape))] H := hPa
          have hD : va_D A [(ra 9, .inl (kI, 40, .inl q_to)), (ra 2, .inl (kI, 8, .inl q_told)), (ra 8, .inl (kI, 40, .inl q_from)), (m0, .inr (11, oX11 ra y99)), (ra 13, .inl (kI, 700, .inl q_tape))] := hDa
          clear hPa hDa
          refine W.widen (k := 0) (n := 0) (Nat.le_of_ble_eq_true rfl) (Nat.le_of_ble_eq_true rfl) ?_
          have hrr108 : RRd tT nN y99 (lnk2 tT nN sS (q_told 4) (q_told 5) (shT 20 q_from)) := hq104
          refine lv_aload_n hx hb dX11_readLink_65 rfl (lv_at hl 1 rfl) ?_
          obtain ⟨hPc, hDc, hFc, hJn⟩ := cl_a (wc := [(m0, .inr (11, oX11 ra y99)), (ra 2, .inl (kI, 8, .inl q_told))]) (wr := [(ra 9, .inl (kI, 40, .inl q_to)), (ra 8, .inl (kI, 40, .inl q_from)), (ra 13, .inl (kI, 700, .inl q_tape))]) hP hD hS hA [3, 1] [0, 2, 4] rfl rfl (by decide +kernel)
          refine va_calli (va_runV (As := []) (rest := []) ⟨hx, hb, hml, hown, hts⟩ (s11_routerNow l dC dI kB kI kJ kZ kC kS H.size m0 ra y99 q_told tT nN (lnk2 tT nN sS (q_told 4) (q_told 5) (shT 20 q_from)) (hq100) (hq_told) (hrr108)) (cwV 0 hts gX11_readLink_X11_routerNow rfl rfl rfl (by decide +kernel) ⟨Nat.le_of_ble_eq_true rfl, Nat.le_of_ble_eq_true rfl⟩) ⟨fun a U g mk q => by obtain ⟨q0, q1, qP, qE, qD⟩ := q; exact ⟨q0, q1, qP, kE_call qE, qD⟩, va_recv hK hP (ci := 11) (q0 := 3) rfl rfl, fun U hU hW => ⟨rfl, by rw [hU], by rw [hU]; exact hPc, kE_warm hW hE, hDc.weaken (fun _ _ _ _ => trivial)⟩⟩ rfl rfl hl.1 rfl (lv_room (Nat.le_of_ble_eq_true rfl)) dX11_readLink_66 ⟨Nat.le_of_ble_eq_true rfl, Nat.le_of_ble_eq_true rfl⟩) hS (fun q _ h => hFc q h) hFc (fun r109 u t H locs ht hvm w110 hB hz1 hk1 hS => ?_)
          obtain ⟨y111, hq112, hq113, hq114, hq115, hq116, hq117, hq118, hP1, hD1⟩ := hB
          try dsimp only at w110
          obtain ⟨hPa, hDa⟩ := hJn (w1 := [(m0, .inr (11, oX11 ra y111)), (ra 2, .inl (kI, 8, .inl q_told))]) hk1 ht hP1 hD1
          clear hP hD hPc hDc hFc hJn hP1 hD1 hk1
          have hP : va_P (dC, dI) vwCl [(ra 9, .inl (kI, 40, .inl q_to)), (ra 8, .inl (kI, 40, .inl q_from)), (ra 13, .inl (kI, 700, .inl q_tape)), (m0, .inr (11, oX11 ra y111)), (ra 2, .inl (kI, 8, .inl q_told))] H := hPa
          have hD : va_D A [(ra 9, .inl (kI, 40, .inl q_to)), (ra 8, .inl (kI, 40, .inl q_from)), (ra 13, .inl (kI, 700, .inl q_tape)), (m0, .inr (11, oX11 ra y111)), (ra 2, .inl (kI, 8, .inl q_told))] := hDa
          clear hPa hDa
          refine W.widen (k := 0) (n := 0) (Nat.le_of_ble_eq_true rfl) (Nat.le_of_ble_eq_true rfl) ?_
          have hv8 := w110.2
          refine lv_istore_n (lv' := [(2, .int r109), (1, .int r16), (0, .ref m0)]) hx hb dX11_readLink_69 rfl hl (Nat.le_of_ble_eq_true rfl) rfl (fun ls hl => ?_)
          refine lv_aload_n hx hb dX11_readLink_70 rfl (lv_at hl 2 rfl) ?_
          refine va_get (D := (dC, dI)) (ci := 11) (v := .int (y111 8)) (C := RX11) (T := TX11) (N := 61) hx hb hts hin11 hown hK hP 3 rfl rfl 22 (Nat.le_of_ble_eq_true rfl) hw_1 (fun _ h9 => h9) rfl dX11_readLink_71 ?_
          refine lv_if_ne (tgt := 96) hx hb dX11_readLink_74 rfl (fun c119 => ?_) (fun c119 => ?_)
          · have b120 : iv 1 5 (y111 8) := iv_neLo c119 (hq112 8 : iv 0 5 (y111 8)) ivk_0 (by decide) (by decide)
            have hrr121 : RRd tT nN y111 (iteT (lnkB tT nN sS (q_told 4) (q_told 5) (shT 20 q_from) ≤ lnkA tT nN sS ∨ hasT (shT 20 q_from) (shT 20 q_to) (q_told 5) (lnkA tT nN sS) (lnkB tT nN sS (q_told 4) (q_told 5) (shT 20 q_from))) (failT 5 (lnk3 tT nN sS (q_told 4) (q_told 5) (shT 20 q_from))) (lnk3 tT nN sS (q_told 4) (q_told 5) (shT 20 q_from))) := ite_r hq115 c119 ▸ hq115
            refine lv_aload_n hx hb dX11_readLink_96 rfl (lv_at hl 2 rfl) ?_
            refine va_get (D := (dC, dI)) (ci := 11) (v := .int (y111 8)) (C := RX11) (T := TX11) (N := 61) hx hb hts hin11 hown hK hP 3 rfl rfl 22 (Nat.le_of_ble_eq_true rfl) hw_1 (fun _ h9 => h9) rfl dX11_readLink_97 ?_
            refine lv_if_eq (tgt := 104) hx hb dX11_readLink_100 rfl (fun c9 => absurd c9 (c119)) (fun _ => ?_)
            have hPD9 := cl_s (wc := [(m0, .inr (11, oX11 ra y111)), (ra 2, .inl (kI, 8, .inl q_told)), (ra 8, .inl (kI, 40, .inl q_from)), (ra 9, .inl (kI, 40, .inl q_to)), (ra 13, .inl (kI, 700, .inl q_tape))]) hP hD [3, 4, 1, 0, 2] rfl (by decide +kernel)
            have hP9 := hPD9.1
            have hD9 := hPD9.2
            exact W.vret hx hb hr (fun t ht hW => ⟨⟨(), rfl, trivial, y111, q_told, q_from, q_to, hq112, hq_told, hq_from, hq_to, (show (x0 2).toInt ≤ (y111 2).toInt from by omega), (show y111 3 = x0 3 from hq114.trans (hq102.trans (hq21.trans (hq10)))), (show ∀ j : Nat, (j : Int) < (q_told 1).toInt → (q_from j).toInt < (q_to j).toInt from hLT), (show ∀ j : Nat, (j : Int) < (q_told 5).toInt → (q_from (20 + j)).toInt < (q_to (20 + j)).toInt from hLD), (show RRd tT nN y111 (lnkS tT nN sS (q_told 4) (q_told 5) (shT 20 q_from) (shT 20 q_to)) from it_f (Q := RRd tT nN y111) c1 ((rr_stepN hrr121 c119))), (show y111 8 = 0 → q_told = upd q_told 5 (q_told 5 + 1) ∧ q_from = upd q_from ((20 + (q_told 5)).toNatClampNeg) (lnkA tT nN sS) ∧ q_to = upd q_to ((20 + (q_told 5)).toNatClampNeg) (lnkB tT nN sS (q_told 4) (q_told 5) (shT 20 q_from)) from fun w => absurd w c119), (show y111 1 = x0 1 from hq116.trans (hq105.trans (hq23.trans (hq13)))), (show y111 10 = x0 10 from hq117.trans (hq106.trans (hq24.trans (hq14)))), (show y111 23 = x0 23 from hq118.trans (hq107.trans (hq25.trans (hq15)))), by rw [ht]; exact hP9, hD9⟩, hS.F ht⟩) hS.2.2 dX11_readLink_103
          · have b122 : iv 0 0 (y111 8) := iv_eqL c119 ivk_0
            refine lv_iload_n hx hb dX11_readLink_77 rfl (lv_at hl 0 rfl) ?_
            refine lv_iload_n hx hb dX11_readLink_78 rfl (lv_at hl 1 rfl) ?_
            refine lv_icmp_le (tgt := 91) hx hb dX11_readLink_79 rfl (fun c123 => ?_) (fun c123 => ?_)
            · refine lv_aload_n hx hb dX11_readLink_91 rfl (lv_at hl 2 rfl) ?_
              refine lv_iconst (v := 5) hx hb dX11_readLink_92 ic_5 ?_
              obtain ⟨hPc, hDc, hFc, hJn⟩ := cl_a (wc := [(m0, .inr (11, oX11 ra y111))]) (wr := [(ra 9, .inl (kI, 40, .inl q_to)), (ra 8, .inl (kI, 40, .inl q_from)), (ra 13, .inl (kI, 700, .inl q_tape)), (ra 2, .inl (kI, 8, .inl q_told))]) hP hD hS hA [3] [0, 1, 2, 4] rfl rfl (by decide +kernel)
              refine va_callv (va_runV (As := [.int 5]) (rest := []) ⟨hx, hb, hml, hown, hts⟩ (s11_wrong l dC dI kB kI kJ kZ kC kS H.size m0 ra y111 5 tT nN (rouT tT (q_told 4) (lnk2 tT nN sS (q_told 4) (q_told 5) (shT 20 q_from))) (hq112) ((iv_w ivk_5 (by decide) (by decide))) (hq115)) (cwV 1 hts gX11_readLink_X11_wrong rfl rfl rfl (by decide +kernel) ⟨Nat.le_of_ble_eq_true rfl, Nat.le_of_ble_eq_true rfl⟩) ⟨fun a U g mk q => by obtain ⟨q0, q1, qP, qE, qD⟩ := q; exact ⟨q0, q1, qP, kE_call qE, qD⟩, va_recv hK hP (ci := 11) (q0 := 3) rfl rfl, fun U hU hW => ⟨rfl, by rw [hU], by rw [hU]; exact hPc, kE_warm hW hE, hDc.weaken (fun _ _ _ _ => trivial)⟩⟩ rfl rfl hl.1 rfl (lv_room (Nat.le_of_ble_eq_true rfl)) dX11_readLink_93 ⟨Nat.le_of_ble_eq_true rfl, Nat.le_of_ble_eq_true rfl⟩) hS (fun q _ h => hFc q h) hFc (fun u t H locs ht hvm w125 hB hz1 hk1 hS => ?_)
              obtain ⟨y126, hq127, hq128, hq129, hq130, hq131, hq132, hq133, hq134, hP1, hD1⟩ := hB
              try dsimp only at w125
              obtain ⟨hPa, hDa⟩ := hJn (w1 := [(m0, .inr (11, oX11 ra y126))]) hk1 ht hP1 hD1
              clear hP hD hPc hDc hFc hJn hP1 hD1 hk1
              have hP : va_P (dC, dI) vwCl [(ra 9, .inl (kI, 40, .inl q_to)), (ra 8, .inl (kI, 40, .inl q_from)), (ra 13, .inl (kI, 700, .inl q_tape)), (ra 2, .inl (kI, 8, .inl q_told)), (m0, .inr (11, oX11 ra y126))] H := hPa
              have hD : va_D A [(ra 9, .inl (kI, 40, .inl q_to)), (ra 8, .inl (kI, 40, .inl q_from)), (ra 13, .inl (kI, 700, .inl q_tape)), (ra 2, .inl (kI, 8, .inl q_told)), (m0, .inr (11, oX11 ra y126))] := hDa
              clear hPa hDa
              refine W.widen (k := 0) (n := 0) (Nat.le_of_ble_eq_true rfl) (Nat.le_of_ble_eq_true rfl) ?_
              have hok9 := rr_ok hq115 c119
              have hb9 := hv8 hok9
              have ha9 := hv9 (ok_ite (ok_next (ok_num (ok_rou hok9)))).1
              have hrr135 : RRd tT nN y126 (iteT (lnkB tT nN sS (q_told 4) (q_told 5) (shT 20 q_from) ≤ lnkA tT nN sS ∨ hasT (shT 20 q_from) (shT 20 q_to) (q_told 5) (lnkA tT nN sS) (lnkB tT nN sS (q_told 4) (q_told 5) (shT 20 q_from))) (failT 5 (lnk3 tT nN sS (q_told 4) (q_told 5) (shT 20 q_from))) (lnk3 tT nN sS (q_told 4) (q_told 5) (shT 20 q_from))) := it_t (Q := RRd tT nN y126) (Or.inl (by have q := c123; rw [ha9, hb9] at q; exact q)) (hq131)
              refine lv_aload_n hx hb dX11_readLink_96 rfl (lv_at hl 2 rfl) ?_
              refine va_get (D := (dC, dI)) (ci := 11) (v := .int (y126 8)) (C := RX11) (T := TX11) (N := 61) hx hb hts hin11 hown hK hP 4 rfl rfl 22 (Nat.le_of_ble_eq_true rfl) hw_1 (fun _ h9 => h9) rfl dX11_readLink_97 ?_
              refine lv_if_eq (tgt := 104) hx hb dX11_readLink_100 rfl (fun c9 => absurd c9 (iv_ne hq128 ivk_0 (by decide))) (fun _ => ?_)
              have hPD9 := cl_s (wc := [(m0, .inr (11, oX11 ra y126)), (ra 2, .inl (kI, 8, .inl q_told)), (ra 8, .inl (kI, 40, .inl q_from)), (ra 9, .inl (kI, 40, .inl q_to)), (ra 13, .inl (kI, 700, .inl q_tape))]) hP hD [4, 3, 1, 0, 2] rfl (by decide +kernel)
              have hP9 := hPD9.1
              have hD9 := hPD9.2
              exact W.vret hx hb hr (fun t ht hW => ⟨⟨(), rfl, trivial, y126, q_told, q_from, q_to, hq127, hq_told, hq_from, hq_to, (show (x0 2).toInt ≤ (y126 2).toInt from by omega), (show y126 3 = x0 3 from hq130.trans (hq114.trans (hq102.trans (hq21.trans (hq10))))), (show ∀ j : Nat, (j : Int) < (q_told 1).toInt → (q_from j).toInt < (q_to j).toInt from hLT), (show ∀ j : Nat, (j : Int) < (q_told 5).toInt → (q_from (20 + j)).toInt < (q_to (20 + j)).toInt from hLD), (show RRd tT nN y126 (lnkS tT nN sS (q_told 4) (q_told 5) (shT 20 q_from) (shT 20 q_to)) from it_f (Q := RRd tT nN y126) c1 ((rr_stepN hrr135 (iv_ne hq128 ivk_0 (by decide))))), (show y126 8 = 0 → q_told = upd q_told 5 (q_told 5 + 1) ∧ q_from = upd q_from ((20 + (q_told 5)).toNatClampNeg) (lnkA tT nN sS) ∧ q_to = upd q_to ((20 + (q_told 5)).toNatClampNeg) (lnkB tT nN sS (q_told 4) (q_told 5) (shT 20 q_from)) from fun w => absurd w (iv_ne hq128 ivk_0 (by decide))), (show y126 1 = x0 1 from hq132.trans (hq116.trans (hq105.trans (hq23.trans (hq13))))), (show y126 10 = x0 10 from hq133.trans (hq117.trans (hq106.trans (hq24.trans (hq14))))), (show y126 23 = x0 23 from hq134.trans (hq118.trans (hq107.trans (hq25.trans (hq15))))), by rw [ht]; exact hP9, hD9⟩, hS.F ht⟩) hS.2.2 dX11_readLink_103
            · have b136 : iv 0 10 r16 := iv_ltL (Int32.not_le.mp c123) w17.1 w110.1 (by decide) (by decide)
              have b137 : iv 1 11 r109 := iv_ltR (Int32.not_le.mp c123) w17.1 w110.1 (by decide) (by decide)
              refine lv_aload_n hx hb dX11_readLink_82 rfl (lv_at hl 2 rfl) ?_
              refine lv_iload_n hx hb dX11_readLink_83 rfl (lv_at hl 1 rfl) ?_
              refine lv_iload_n hx hb dX11_readLink_84 rfl (lv_at hl 0 rfl) ?_
              obtain ⟨hPc, hDc, hFc, hJn⟩ := cl_a (wc := [(m0, .inr (11, oX11 ra y111)), (ra 2, .inl (kI, 8, .inl q_told)), (ra 8, .inl (kI, 40, .inl q_from)), (ra 9, .inl (kI, 40, .inl q_to))]) (wr := [(ra 13, .inl (kI, 700, .inl q_tape))]) hP hD hS hA [3, 4, 1, 0] [2] rfl rfl (by decide +kernel)
              refine va_calli (va_runV (As := [.int r16, .int r109]) (rest := []) ⟨hx, hb, hml, hown, hts⟩ (s11_hasLink l dC dI kB kI kJ kZ kC kS H.size m0 ra y111 q_told q_from q_to r16 r109 (hq112) (hq_told) (hq_from) (hq_to)) (cwV 2 hts gX11_readLink_X11_hasLink rfl rfl rfl (by decide +kernel) ⟨Nat.le_of_ble_eq_true rfl, Nat.le_of_ble_eq_true rfl⟩) ⟨fun a U g mk q => by obtain ⟨q0, q1, qP, qE, qD⟩ := q; exact ⟨q0, q1, qP, kE_call qE, qD⟩, va_recv hK hP (ci := 11) (q0 := 3) rfl rfl, fun U hU hW => ⟨rfl, by rw [hU], by rw [hU]; exact hPc, kE_warm hW hE, hDc.weaken (fun _ _ _ _ => trivial)⟩⟩ rfl rfl hl.1 rfl (lv_room (Nat.le_of_ble_eq_true rfl)) dX11_readLink_85 ⟨Nat.le_of_ble_eq_true rfl, Nat.le_of_ble_eq_true rfl⟩) hS (fun q _ h => hFc q h) hFc (fun r138 u t H locs ht hvm w139 hB hz1 hk1 hS => ?_)
              obtain ⟨hP1, hD1⟩ := hB
              try dsimp only at w139
              obtain ⟨hPa, hDa⟩ := hJn (w1 := [(m0, .inr (11, oX11 ra y111)), (ra 2, .inl (kI, 8, .inl q_told)), (ra 8, .inl (kI, 40, .inl q_from)), (ra 9, .inl (kI, 40, .inl q_to))]) hk1 ht hP1 hD1
              clear hP hD hPc hDc hFc hJn hP1 hD1 hk1
              have hP : va_P (dC, dI) vwCl [(ra 13, .inl (kI, 700, .inl q_tape)), (m0, .inr (11, oX11 ra y111)), (ra 2, .inl (kI, 8, .inl q_told)), (ra 8, .inl (kI, 40, .inl q_from)), (ra 9, .inl (kI, 40, .inl q_to))] H := hPa
              have hD : va_D A [(ra 13, .inl (kI, 700, .inl q_tape)), (m0, .inr (11, oX11 ra y111)), (ra 2, .inl (kI, 8, .inl q_told)), (ra 8, .inl (kI, 40, .inl q_from)), (ra 9, .inl (kI, 40, .inl q_to))] := hDa
              clear hPa hDa
              refine W.widen (k := 0) (n := 0) (Nat.le_of_ble_eq_true rfl) (Nat.le_of_ble_eq_true rfl) ?_
              have hh9 := w139.2
              refine lv_if_eq (tgt := 96) hx hb dX11_readLink_88 rfl (fun c140 => ?_) (fun c140 => ?_)
              · have b141 : iv 0 0 r138 := iv_eqL c140 ivk_0
                have hok9 := rr_ok hq115 c119
                have hb9 := hv8 hok9
                have ha9 := hv9 (ok_ite (ok_next (ok_num (ok_rou hok9)))).1
                have hrr142 : RRd tT nN y111 (iteT (lnkB tT nN sS (q_told 4) (q_told 5) (shT 20 q_from) ≤ lnkA tT nN sS ∨ hasT (shT 20 q_from) (shT 20 q_to) (q_told 5) (lnkA tT nN sS) (lnkB tT nN sS (q_told 4) (q_told 5) (shT 20 q_from))) (failT 5 (lnk3 tT nN sS (q_told 4) (q_told 5) (shT 20 q_from))) (lnk3 tT nN sS (q_told 4) (q_told 5) (shT 20 q_from))) := it_f (Q := RRd tT nN y111) (by have q := (hh9.resolve_right (fun w => w.1 c140)).2; have q2 := Int32.not_le.mpr (Int32.not_le.mp c123); rw [ha9, hb9] at q q2; exact fun w => w.elim q2 q) (hq115)
                refine lv_aload_n hx hb dX11_readLink_96 rfl (lv_at hl 2 rfl) ?_
                refine va_get (D := (dC, dI)) (ci := 11) (v := .int (y111 8)) (C := RX11) (T := TX11) (N := 61) hx hb hts hin11 hown hK hP 1 rfl rfl 22 (Nat.le_of_ble_eq_true rfl) hw_1 (fun _ h9 => h9) rfl dX11_readLink_97 ?_
                refine lv_if_eq (tgt := 104) hx hb dX11_readLink_100 rfl (fun _ => ?_) (fun c9 => absurd (c119) c9)
                refine lv_aload_n hx hb dX11_readLink_104 rfl (lv_at hl 2 rfl) ?_
                obtain ⟨hPc, hDc, hFc, hJn⟩ := cl_a (wc := [(m0, .inr (11, oX11 ra y111)), (ra 13, .inl (kI, 700, .inl q_tape))]) (wr := [(ra 2, .inl (kI, 8, .inl q_told)), (ra 8, .inl (kI, 40, .inl q_from)), (ra 9, .inl (kI, 40, .inl q_to))]) hP hD hS hA [1, 0] [2, 3, 4] rfl rfl (by decide +kernel)
                refine va_callv (va_runV (As := []) (rest := []) ⟨hx, hb, hml, hown, hts⟩ (s11_stepOn l dC dI kB kI kJ kZ kC kS H.size m0 ra y111 q_tape tT nN (nextT tT nN (iteT (lnkB tT nN sS (q_told 4) (q_told 5) (shT 20 q_from) ≤ lnkA tT nN sS ∨ hasT (shT 20 q_from) (shT 20 q_to) (q_told 5) (lnkA tT nN sS) (lnkB tT nN sS (q_told 4) (q_told 5) (shT 20 q_from))) (failT 5 (lnk3 tT nN sS (q_told 4) (q_told 5) (shT 20 q_from))) (lnk3 tT nN sS (q_told 4) (q_told 5) (shT 20 q_from)))) (hq112) (hq_tape) (hrr142.2) (stp_of hrr142) (hTQ)) (cwV 0 hts gX11_readLink_X11_stepOn rfl rfl rfl (by decide +kernel) ⟨Nat.le_of_ble_eq_true rfl, Nat.le_of_ble_eq_true rfl⟩) ⟨fun a U g mk q => by obtain ⟨q0, q1, qP, qE, qD⟩ := q; exact ⟨q0, q1, qP, kE_call qE, qD⟩, va_recv hK hP (ci := 11) (q0 := 1) rfl rfl, fun U hU hW => ⟨rfl, by rw [hU], by rw [hU]; exact hPc, kE_warm hW hE, hDc.weaken (fun _ _ _ _ => trivial)⟩⟩ rfl rfl hl.1 rfl (lv_room (Nat.le_of_ble_eq_true rfl)) dX11_readLink_105 ⟨Nat.le_of_ble_eq_true rfl, Nat.le_of_ble_eq_true rfl⟩) hS (fun q _ h => hFc q h) hFc (fun u t H locs ht hvm w144 hB hz1 hk1 hS => ?_)
                obtain ⟨y145, hq146, hq147, hq148, hq149, hq150, hq151, hq152, hq153, hP1, hD1⟩ := hB
                try dsimp only at w144
                obtain ⟨hPa, hDa⟩ := hJn (w1 := [(m0, .inr (11, oX11 ra y145)), (ra 13, .inl (kI, 700, .inl q_tape))]) hk1 ht hP1 hD1
                clear hP hD hPc hDc hFc hJn hP1 hD1 hk1
                have hP : va_P (dC, dI) vwCl [(ra 2, .inl (kI, 8, .inl q_told)), (ra 8, .inl (kI, 40, .inl q_from)), (ra 9, .inl (kI, 40, .inl q_to)), (m0, .inr (11, oX11 ra y145)), (ra 13, .inl (kI, 700, .inl q_tape))] H := hPa
                have hD : va_D A [(ra 2, .inl (kI, 8, .inl q_told)), (ra 8, .inl (kI, 40, .inl q_from)), (ra 9, .inl (kI, 40, .inl q_to)), (m0, .inr (11, oX11 ra y145)), (ra 13, .inl (kI, 700, .inl q_tape))] := hDa
                clear hPa hDa
                refine W.widen (k := 0) (n := 0) (Nat.le_of_ble_eq_true rfl) (Nat.le_of_ble_eq_true rfl) ?_
                refine lv_aload_n hx hb dX11_readLink_108 rfl (lv_at hl 2 rfl) ?_
                refine va_get (D := (dC, dI)) (ci := 11) (v := .ref (ra 8)) (C := RX11) (T := TX11) (N := 61) hx hb hts hin11 hown hK hP 3 rfl rfl 9 (Nat.le_of_ble_eq_true rfl) hw_2 (fun _ h9 => h9) rfl dX11_readLink_109 ?_
                refine lv_bipush (v := 20) hx hb dX11_readLink_112 bp_20 ?_
                refine lv_aload_n hx hb dX11_readLink_114 rfl (lv_at hl 2 rfl) ?_
                refine va_get (D := (dC, dI)) (ci := 11) (v := .ref (ra 2)) (C := RX11) (T := TX11) (N := 61) hx hb hts hin11 hown hK hP 3 rfl rfl 3 (Nat.le_of_ble_eq_true rfl) hw_0 (fun _ h9 => h9) rfl dX11_readLink_115 ?_
                refine lv_iconst (v := 5) hx hb dX11_readLink_118 ic_5 ?_
                refine va_iald hx hb hK hP 0 1 rfl rfl (vp_in_nI (n := 5) (by decide) (by decide)) dX11_readLink_119 ?_
                refine W.eq (g2 := F0 m 120 ls [.int (q_told 5), .int 20, .ref (ra 8)]) rfl ?_
                refine lv_iadd hx hb dX11_readLink_120 ?_
                have b154 : iv 20 39 (20 + (q_told 5)) := iv_add ivk_20 b2 (by decide) (by decide) (by decide) (by decide)
                refine lv_iload_n hx hb dX11_readLink_121 rfl (lv_at hl 1 rfl) ?_
                refine va_iast hx hb hK hP hD hS 1 1 rfl rfl (iv_in b154 (by decide) (by decide)) dX11_readLink_122 (fun H locs hPa hDa hS => ?_)
                clear hP hD
                have hP : va_P (dC, dI) vwCl [(ra 2, .inl (kI, 8, .inl q_told)), (ra 8, .inl (kI, 40, .inl (upd q_from (20 + (q_told 5)).toNatClampNeg r16))), (ra 9, .inl (kI, 40, .inl q_to)), (m0, .inr (11, oX11 ra y145)), (ra 13, .inl (kI, 700, .inl q_tape))] H := hPa
                have hD : va_D A [(ra 2, .inl (kI, 8, .inl q_told)), (ra 8, .inl (kI, 40, .inl (upd q_from (20 + (q_told 5)).toNatClampNeg r16))), (ra 9, .inl (kI, 40, .inl q_to)), (m0, .inr (11, oX11 ra y145)), (ra 13, .inl (kI, 700, .inl q_tape))] := hDa
                clear hPa hDa
                refine lv_aload_n hx hb dX11_readLink_123 rfl (lv_at hl 2 rfl) ?_
                refine va_get (D := (dC, dI)) (ci := 11) (v := .ref (ra 9)) (C := RX11) (T := TX11) (N := 61) hx hb hts hin11 hown hK hP 3 rfl rfl 10 (Nat.le_of_ble_eq_true rfl) hw_3 (fun _ h9 => h9) rfl dX11_readLink_124 ?_
                refine lv_bipush (v := 20) hx hb dX11_readLink_127 bp_20 ?_
                refine lv_aload_n hx hb dX11_readLink_129 rfl (lv_at hl 2 rfl) ?_
                refine va_get (D := (dC, dI)) (ci := 11) (v := .ref (ra 2)) (C := RX11) (T := TX11) (N := 61) hx hb hts hin11 hown hK hP 3 rfl rfl 3 (Nat.le_of_ble_eq_true rfl) hw_0 (fun _ h9 => h9) rfl dX11_readLink_130 ?_
                refine lv_iconst (v := 5) hx hb dX11_readLink_133 ic_5 ?_
                refine va_iald hx hb hK hP 0 1 rfl rfl (vp_in_nI (n := 5) (by decide) (by decide)) dX11_readLink_134 ?_
                refine W.eq (g2 := F0 m 135 ls [.int (q_told 5), .int 20, .ref (ra 9)]) rfl ?_
                refine lv_iadd hx hb dX11_readLink_135 ?_
                have b155 : iv 20 39 (20 + (q_told 5)) := iv_add ivk_20 b2 (by decide) (by decide) (by decide) (by decide)
                refine lv_iload_n hx hb dX11_readLink_136 rfl (lv_at hl 0 rfl) ?_
                refine va_iast hx hb hK hP hD hS 2 1 rfl rfl (iv_in b155 (by decide) (by decide)) dX11_readLink_137 (fun H locs hPa hDa hS => ?_)
                clear hP hD
                have hP : va_P (dC, dI) vwCl [(ra 2, .inl (kI, 8, .inl q_told)), (ra 8, .inl (kI, 40, .inl (upd q_from (20 + (q_told 5)).toNatClampNeg r16))), (ra 9, .inl (kI, 40, .inl (upd q_to (20 + (q_told 5)).toNatClampNeg r109))), (m0, .inr (11, oX11 ra y145)), (ra 13, .inl (kI, 700, .inl q_tape))] H := hPa
                have hD : va_D A [(ra 2, .inl (kI, 8, .inl q_told)), (ra 8, .inl (kI, 40, .inl (upd q_from (20 + (q_told 5)).toNatClampNeg r16))), (ra 9, .inl (kI, 40, .inl (upd q_to (20 + (q_told 5)).toNatClampNeg r109))), (m0, .inr (11, oX11 ra y145)), (ra 13, .inl (kI, 700, .inl q_tape))] := hDa
                clear hPa hDa
                refine lv_aload_n hx hb dX11_readLink_138 rfl (lv_at hl 2 rfl) ?_
                refine va_get (D := (dC, dI)) (ci := 11) (v := .ref (ra 2)) (C := RX11) (T := TX11) (N := 61) hx hb hts hin11 hown hK hP 3 rfl rfl 3 (Nat.le_of_ble_eq_true rfl) hw_0 (fun _ h9 => h9) rfl dX11_readLink_139 ?_
                refine lv_iconst (v := 5) hx hb dX11_readLink_142 ic_5 ?_
                refine lv_dup2_11 hx hb dX11_readLink_143 rfl rfl ?_
                refine va_iald hx hb hK hP 0 1 rfl rfl (vp_in_nI (n := 5) (by decide) (by decide)) dX11_readLink_144 ?_
                refine W.eq (g2 := F0 m 145 ls [.int (q_told 5), .int 5, .ref (ra 2)]) rfl ?_
                refine lv_iconst (v := 1) hx hb dX11_readLink_145 ic_1 ?_
                refine lv_iadd hx hb dX11_readLink_146 ?_
                have b156 : iv 1 20 ((q_told 5) + 1) := iv_add b2 ivk_1 (by decide) (by decide) (by decide) (by decide)
                refine va_iast hx hb hK hP hD hS 0 1 rfl rfl (vp_in_nI (n := 5) (by decide) (by decide)) dX11_readLink_147 (fun H locs hPa hDa hS => ?_)
                clear hP hD
                have hP : va_P (dC, dI) vwCl [(ra 2, .inl (kI, 8, .inl (upd q_told 5 ((q_told 5) + 1)))), (ra 8, .inl (kI, 40, .inl (upd q_from (20 + (q_told 5)).toNatClampNeg r16))), (ra 9, .inl (kI, 40, .inl (upd q_to (20 + (q_told 5)).toNatClampNeg r109))), (m0, .inr (11, oX11 ra y145)), (ra 13, .inl (kI, 700, .inl q_tape))] H := hPa
                have hD : va_D A [(ra 2, .inl (kI, 8, .inl (upd q_told 5 ((q_told 5) + 1)))), (ra 8, .inl (kI, 40, .inl (upd q_from (20 + (q_told 5)).toNatClampNeg r16))), (ra 9, .inl (kI, 40, .inl (upd q_to (20 + (q_told 5)).toNatClampNeg r109))), (m0, .inr (11, oX11 ra y145)), (ra 13, .inl (kI, 700, .inl q_tape))] := hDa
                clear hPa hDa
                have hPD9 := cl_s (wc := [(m0, .inr (11, oX11 ra y145)), (ra 2, .inl (kI, 8, .inl (upd q_told 5 ((q_told 5) + 1)))), (ra 8, .inl (kI, 40, .inl (upd q_from (20 + (q_told 5)).toNatClampNeg r16))), (ra 9, .inl (kI, 40, .inl (upd q_to (20 + (q_told 5)).toNatClampNeg r109))), (ra 13, .inl (kI, 700, .inl q_tape))]) hP hD [3, 0, 1, 2, 4] rfl (by decide +kernel)
                have hP9 := hPD9.1
                have hD9 := hPD9.2
                exact W.vret hx hb hr (fun t ht hW => ⟨⟨(), rfl, trivial, y145, upd q_told 5 ((q_told 5) + 1), upd q_from (20 + (q_told 5)).toNatClampNeg r16, upd q_to (20 + (q_told 5)).toNatClampNeg r109, hq146, (fI_u hq_told (k := 5) ((iv_w b156 (by decide) (by decide)))), (fI_u hq_from (k := (20 + (q_told 5)).toNatClampNeg) ((iv_w b136 (by decide) (by decide)))), (fI_u hq_to (k := (20 + (q_told 5)).toNatClampNeg) ((iv_w b137 (by decide) (by decide)))), (show (x0 2).toInt ≤ (y145 2).toInt from by omega), (show y145 3 = x0 3 from hq148.trans (hq114.trans (hq102.trans (hq21.trans (hq10))))), lk_lt hLT (hq_told 1) (hq_told 5), lk_ld hLD b2 (Int32.not_le.mp c123), (show RRd tT nN y145 (lnkS tT nN sS (q_told 4) (q_told 5) (shT 20 q_from) (shT 20 q_to)) from it_f (Q := RRd tT nN y145) c1 (hq150)), fun _ => ⟨rfl, congrArg (upd q_from ((20 + (q_told 5)).toNatClampNeg)) (hv9 (ok_ite (ok_next (ok_num (ok_rou (ok_ite (rr_ok hrr142 c119)).1)))).1), congrArg (upd q_to ((20 + (q_told 5)).toNatClampNeg)) (hv8 (ok_ite (rr_ok hrr142 c119)).1)⟩, (show y145 1 = x0 1 from hq151.trans (hq116.trans (hq105.trans (hq23.trans (hq13))))), (show y145 10 = x0 10 from hq152.trans (hq117.trans (hq106.trans (hq24.trans (hq14))))), (show y145 23 = x0 23 from hq153.trans (hq118.trans (hq107.trans (hq25.trans (hq15))))), by rw [ht]; exact hP9, hD9⟩, hS.F ht⟩) hS.2.2 dX11_readLink_148
              · have b157 : iv 1 1 r138 := iv_neLo c140 w139.1 ivk_0 (by decide) (by decide)
                refine lv_aload_n hx hb dX11_readLink_91 rfl (lv_at hl 2 rfl) ?_
                refine lv_iconst (v := 5) hx hb dX11_readLink_92 ic_5 ?_
                obtain ⟨hPc, hDc, hFc, hJn⟩ := cl_a (wc := [(m0, .inr (11, oX11 ra y111))]) (wr := [(ra 13, .inl (kI, 700, .inl q_tape)), (ra 2, .inl (kI, 8, .inl q_told)), (ra 8, .inl (kI, 40, .inl q_from)), (ra 9, .inl (kI, 40, .inl q_to))]) hP hD hS hA [1] [0, 2, 3, 4] rfl rfl (by decide +kernel)
                refine va_callv (va_runV (As := [.int 5]) (rest := []) ⟨hx, hb, hml, hown, hts⟩ (s11_wrong l dC dI kB kI kJ kZ kC kS H.size m0 ra y111 5 tT nN (rouT tT (q_told 4) (lnk2 tT nN sS (q_told 4) (q_told 5) (shT 20 q_from))) (hq112) ((iv_w ivk_5 (by decide) (by decide))) (hq115)) (cwV 1 hts gX11_readLink_X11_wrong rfl rfl rfl (by decide +kernel) ⟨Nat.le_of_ble_eq_true rfl, Nat.le_of_ble_eq_true rfl⟩) ⟨fun a U g mk q => by obtain ⟨q0, q1, qP, qE, qD⟩ := q; exact ⟨q0, q1, qP, kE_call qE, qD⟩, va_recv hK hP (ci := 11) (q0 := 1) rfl rfl, fun U hU hW => ⟨rfl, by rw [hU], by rw [hU]; exact hPc, kE_warm hW hE, hDc.weaken (fun _ _ _ _ => trivial)⟩⟩ rfl rfl hl.1 rfl (lv_room (Nat.le_of_ble_eq_true rfl)) dX11_readLink_93 ⟨Nat.le_of_ble_eq_true rfl, Nat.le_of_ble_eq_true rfl⟩) hS (fun q _ h => hFc q h) hFc (fun u t H locs ht hvm w159 hB hz1 hk1 hS => ?_)
                obtain ⟨y160, hq161, hq162, hq163, hq164, hq165, hq166, hq167, hq168, hP1, hD1⟩ := hB
                try dsimp only at w159
                obtain ⟨hPa, hDa⟩ := hJn (w1 := [(m0, .inr (11, oX11 ra y160))]) hk1 ht hP1 hD1
                clear hP hD hPc hDc hFc hJn hP1 hD1 hk1
                have hP : va_P (dC, dI) vwCl [(ra 13, .inl (kI, 700, .inl q_tape)), (ra 2, .inl (kI, 8, .inl q_told)), (ra 8, .inl (kI, 40, .inl q_from)), (ra 9, .inl (kI, 40, .inl q_to)), (m0, .inr (11, oX11 ra y160))] H := hPa
                have hD : va_D A [(ra 13, .inl (kI, 700, .inl q_tape)), (ra 2, .inl (kI, 8, .inl q_told)), (ra 8, .inl (kI, 40, .inl q_from)), (ra 9, .inl (kI, 40, .inl q_to)), (m0, .inr (11, oX11 ra y160))] := hDa
                clear hPa hDa
                refine W.widen (k := 0) (n := 0) (Nat.le_of_ble_eq_true rfl) (Nat.le_of_ble_eq_true rfl) ?_
                have hok9 := rr_ok hq115 c119
                have hb9 := hv8 hok9
                have ha9 := hv9 (ok_ite (ok_next (ok_num (ok_rou hok9)))).1
                have hrr169 : RRd tT nN y160 (iteT (lnkB tT nN sS (q_told 4) (q_told 5) (shT 20 q_from) ≤ lnkA tT nN sS ∨ hasT (shT 20 q_from) (shT 20 q_to) (q_told 5) (lnkA tT nN sS) (lnkB tT nN sS (q_told 4) (q_told 5) (shT 20 q_from))) (failT 5 (lnk3 tT nN sS (q_told 4) (q_told 5) (shT 20 q_from))) (lnk3 tT nN sS (q_told 4) (q_told 5) (shT 20 q_from))) := it_t (Q := RRd tT nN y160) (Or.inr (by have q := (hh9.resolve_left (fun w => c140 w.1)).2; rw [ha9, hb9] at q; exact q)) (hq165)
                refine lv_aload_n hx hb dX11_readLink_96 rfl (lv_at hl 2 rfl) ?_
                refine va_get (D := (dC, dI)) (ci := 11) (v := .int (y160 8)) (C := RX11) (T := TX11) (N := 61) hx hb hts hin11 hown hK hP 4 rfl rfl 22 (Nat.le_of_ble_eq_true rfl) hw_1 (fun _ h9 => h9) rfl dX11_readLink_97 ?_
                refine lv_if_eq (tgt := 104) hx hb dX11_readLink_100 rfl (fun c9 => absurd c9 (iv_ne hq162 ivk_0 (by decide))) (fun _ => ?_)
                have hPD9 := cl_s (wc := [(m0, .inr (11, oX11 ra y160)), (ra 2, .inl (kI, 8, .inl q_told)), (ra 8, .inl (kI, 40, .inl q_from)), (ra 9, .inl (kI, 40, .inl q_to)), (ra 13, .inl (kI, 700, .inl q_tape))]) hP hD [4, 1, 2, 3, 0] rfl (by decide +kernel)
                have hP9 := hPD9.1
                have hD9 := hPD9.2
                exact W.vret hx hb hr (fun t ht hW => ⟨⟨(), rfl, trivial, y160, q_told, q_from, q_to, hq161, hq_told, hq_from, hq_to, (show (x0 2).toInt ≤ (y160 2).toInt from by omega), (show y160 3 = x0 3 from hq164.trans (hq114.trans (hq102.trans (hq21.trans (hq10))))), (show ∀ j : Nat, (j : Int) < (q_told 1).toInt → (q_from j).toInt < (q_to j).toInt from hLT), (show ∀ j : Nat, (j : Int) < (q_told 5).toInt → (q_from (20 + j)).toInt < (q_to (20 + j)).toInt from hLD), (show RRd tT nN y160 (lnkS tT nN sS (q_told 4) (q_told 5) (shT 20 q_from) (shT 20 q_to)) from it_f (Q := RRd tT nN y160) c1 ((rr_stepN hrr169 (iv_ne hq162 ivk_0 (by decide))))), (show y160 8 = 0 → q_told = upd q_told 5 (q_told 5 + 1) ∧ q_from = upd q_from ((20 + (q_told 5)).toNatClampNeg) (lnkA tT nN sS) ∧ q_to = upd q_to ((20 + (q_told 5)).toNatClampNeg) (lnkB tT nN sS (q_told 4) (q_told 5) (shT 20 q_from)) from fun w => absurd w (iv_ne hq162 ivk_0 (by decide))), (show y160 1 = x0 1 from hq166.trans (hq116.trans (hq105.trans (hq23.trans (hq13))))), (show y160 10 = x0 10 from hq167.trans (hq117.trans (hq106.trans (hq24.trans (hq14))))), (show y160 23 = x0 23 from hq168.trans (hq118.trans (hq107.trans (hq25.trans (hq15))))), by rw [ht]; exact hP9, hD9⟩, hS.F ht⟩) hS.2.2 dX11_readLink_103
        · have b170 : iv 4 4 (nI (cntT (shT 20 q_from) r16 (q_told 5).toNatClampNeg)) := iv_eqL c95 ivk_4
          refine lv_aload_n hx hb dX11_readLink_49 rfl (lv_at hl 1 rfl) ?_
          refine lv_iconst (v := 2) hx hb dX11_readLink_50 ic_2 ?_
          obtain ⟨hPc, hDc, hFc, hJn⟩ := cl_a (wc := [(m0, .inr (11, oX11 ra y18))]) (wr := [(ra 9, .inl (kI, 40, .inl q_to)), (ra 13, .inl (kI, 700, .inl q_tape)), (ra 2, .inl (kI, 8, .inl q_told)), (ra 8, .inl (kI, 40, .inl q_from))]) hP hD hS hA [2] [0, 1, 3, 4] rfl rfl (by decide +kernel)
          refine va_callv (va_runV (As := [.int 2]) (rest := []) ⟨hx, hb, hml, hown, hts⟩ (s11_wrong l dC dI kB kI kJ kZ kC kS H.size m0 ra y18 2 tT nN (rouT tT (q_told 4) (nextT tT nN sS)) (hq19) ((iv_w ivk_2 (by decide) (by decide))) (hq22)) (cwV 1 hts gX11_readLink_X11_wrong rfl rfl rfl (by decide +kernel) ⟨Nat.le_of_ble_eq_true rfl, Nat.le_of_ble_eq_true rfl⟩) ⟨fun a U g mk q => by obtain ⟨q0, q1, qP, qE, qD⟩ := q; exact ⟨q0, q1, qP, kE_call qE, qD⟩, va_recv hK hP (ci := 11) (q0 := 2) rfl rfl, fun U hU hW => ⟨rfl, by rw [hU], by rw [hU]; exact hPc, kE_warm hW hE, hDc.weaken (fun _ _ _ _ => trivial)⟩⟩ rfl rfl hl.1 rfl (lv_room (Nat.le_of_ble_eq_true rfl)) dX11_readLink_51 ⟨Nat.le_of_ble_eq_true rfl, Nat.le_of_ble_eq_true rfl⟩) hS (fun q _ h => hFc q h) hFc (fun u t H locs ht hvm w172 hB hz1 hk1 hS => ?_)
          obtain ⟨y173, hq174, hq175, hq176, hq177, hq178, hq179, hq180, hq181, hP1, hD1⟩ := hB
          try dsimp only at w172
          obtain ⟨hPa, hDa⟩ := hJn (w1 := [(m0, .inr (11, oX11 ra y173))]) hk1 ht hP1 hD1
          clear hP hD hPc hDc hFc hJn hP1 hD1 hk1
          have hP : va_P (dC, dI) vwCl [(ra 9, .inl (kI, 40, .inl q_to)), (ra 13, .inl (kI, 700, .inl q_tape)), (ra 2, .inl (kI, 8, .inl q_told)), (ra 8, .inl (kI, 40, .inl q_from)), (m0, .inr (11, oX11 ra y173))] H := hPa
          have hD : va_D A [(ra 9, .inl (kI, 40, .inl q_to)), (ra 13, .inl (kI, 700, .inl q_tape)), (ra 2, .inl (kI, 8, .inl q_told)), (ra 8, .inl (kI, 40, .inl q_from)), (m0, .inr (11, oX11 ra y173))] := hDa
          clear hPa hDa
          refine W.widen (k := 0) (n := 0) (Nat.le_of_ble_eq_true rfl) (Nat.le_of_ble_eq_true rfl) ?_
          have ha9 := hv9 (rr_ok hq22 c26)
          have hrr182 : RRd tT nN y173 (iteT (cntT (shT 20 q_from) (lnkA tT nN sS) (q_told 5).toNatClampNeg = 4) (failT 2 (lnk1 tT nN sS (q_told 4))) (lnk1 tT nN sS (q_told 4))) := it_t (Q := RRd tT nN y173) (by have q := c95; rw [ha9] at q; exact ct_4 (iv_w b2 (by decide) (by decide)) q) (hq178)
          refine lv_aload_n hx hb dX11_readLink_54 rfl (lv_at hl 1 rfl) ?_
          refine va_get (D := (dC, dI)) (ci := 11) (v := .int (y173 8)) (C := RX11) (T := TX11) (N := 61) hx hb hts hin11 hown hK hP 4 rfl rfl 22 (Nat.le_of_ble_eq_true rfl) hw_1 (fun _ h9 => h9) rfl dX11_readLink_55 ?_
          refine lv_if_ne (tgt := 65) hx hb dX11_readLink_58 rfl (fun _ => ?_) (fun c9 => absurd c9 (iv_ne hq175 ivk_0 (by decide)))
          have hrr183 : RRd tT nN y173 (lnk2 tT nN sS (q_told 4) (q_told 5) (shT 20 q_from)) := rr_stepN hrr182 (iv_ne hq175 ivk_0 (by decide))
          refine lv_aload_n hx hb dX11_readLink_65 rfl (lv_at hl 1 rfl) ?_
          obtain ⟨hPc, hDc, hFc, hJn⟩ := cl_a (wc := [(m0, .inr (11, oX11 ra y173)), (ra 2, .inl (kI, 8, .inl q_told))]) (wr := [(ra 9, .inl (kI, 40, .inl q_to)), (ra 13, .inl (kI, 700, .inl q_tape)), (ra 8, .inl (kI, 40, .inl q_from))]) hP hD hS hA [4, 2] [0, 1, 3] rfl rfl (by decide +kernel)
          refine va_calli (va_runV (As := []) (rest := []) ⟨hx, hb, hml, hown, hts⟩ (s11_routerNow l dC dI kB kI kJ kZ kC kS H.size m0 ra y173 q_told tT nN (lnk2 tT nN sS (q_told 4) (q_told 5) (shT 20 q_from)) (hq174) (hq_told) (hrr183)) (cwV 0 hts gX11_readLink_X11_routerNow rfl rfl rfl (by decide +kernel) ⟨Nat.le_of_ble_eq_true rfl, Nat.le_of_ble_eq_true rfl⟩) ⟨fun a U g mk q => by obtain ⟨q0, q1, qP, qE, qD⟩ := q; exact ⟨q0, q1, qP, kE_call qE, qD⟩, va_recv hK hP (ci := 11) (q0 := 4) rfl rfl, fun U hU hW => ⟨rfl, by rw [hU], by rw [hU]; exact hPc, kE_warm hW hE, hDc.weaken (fun _ _ _ _ => trivial)⟩⟩ rfl rfl hl.1 rfl (lv_room (Nat.le_of_ble_eq_true rfl)) dX11_readLink_66 ⟨Nat.le_of_ble_eq_true rfl, Nat.le_of_ble_eq_true rfl⟩) hS (fun q _ h => hFc q h) hFc (fun r184 u t H locs ht hvm w185 hB hz1 hk1 hS => ?_)
          obtain ⟨y186, hq187, hq188, hq189, hq190, hq191, hq192, hq193, hP1, hD1⟩ := hB
          try dsimp only at w185
          obtain ⟨hPa, hDa⟩ := hJn (w1 := [(m0, .inr (11, oX11 ra y186)), (ra 2, .inl (kI, 8, .inl q_told))]) hk1 ht hP1 hD1
          clear hP hD hPc hDc hFc hJn hP1 hD1 hk1
          have hP : va_P (dC, dI) vwCl [(ra 9, .inl (kI, 40, .inl q_to)), (ra 13, .inl (kI, 700, .inl q_tape)), (ra 8, .inl (kI, 40, .inl q_from)), (m0, .inr (11, oX11 ra y186)), (ra 2, .inl (kI, 8, .inl q_told))] H := hPa
          have hD : va_D A [(ra 9, .inl (kI, 40, .inl q_to)), (ra 13, .inl (kI, 700, .inl q_tape)), (ra 8, .inl (kI, 40, .inl q_from)), (m0, .inr (11, oX11 ra y186)), (ra 2, .inl (kI, 8, .inl q_told))] := hDa
          clear hPa hDa
          refine W.widen (k := 0) (n := 0) (Nat.le_of_ble_eq_true rfl) (Nat.le_of_ble_eq_true rfl) ?_
          have hv8 := w185.2
          refine lv_istore_n (lv' := [(2, .int r184), (1, .int r16), (0, .ref m0)]) hx hb dX11_readLink_69 rfl hl (Nat.le_of_ble_eq_true rfl) rfl (fun ls hl => ?_)
          refine lv_aload_n hx hb dX11_readLink_70 rfl (lv_at hl 2 rfl) ?_
          refine va_get (D := (dC, dI)) (ci := 11) (v := .int (y186 8)) (C := RX11) (T := TX11) (N := 61) hx hb hts hin11 hown hK hP 3 rfl rfl 22 (Nat.le_of_ble_eq_true rfl) hw_1 (fun _ h9 => h9) rfl dX11_readLink_71 ?_
          refine lv_if_ne (tgt := 96) hx hb dX11_readLink_74 rfl (fun c194 => ?_) (fun c194 => ?_)
          · have b195 : iv 1 5 (y186 8) := iv_neLo c194 (hq187 8 : iv 0 5 (y186 8)) ivk_0 (by decide) (by decide)
            have hrr196 : RRd tT nN y186 (iteT (lnkB tT nN sS (q_told 4) (q_told 5) (shT 20 q_from) ≤ lnkA tT nN sS ∨ hasT (shT 20 q_from) (shT 20 q_to) (q_told 5) (lnkA tT nN sS) (lnkB tT nN sS (q_told 4) (q_told 5) (shT 20 q_from))) (failT 5 (lnk3 tT nN sS (q_told 4) (q_told 5) (shT 20 q_from))) (lnk3 tT nN sS (q_told 4) (q_told 5) (shT 20 q_from))) := ite_r hq190 c194 ▸ hq190
            refine lv_aload_n hx hb dX11_readLink_96 rfl (lv_at hl 2 rfl) ?_
            refine va_get (D := (dC, dI)) (ci := 11) (v := .int (y186 8)) (C := RX11) (T := TX11) (N := 61) hx hb hts hin11 hown hK hP 3 rfl rfl 22 (Nat.le_of_ble_eq_true rfl) hw_1 (fun _ h9 => h9) rfl dX11_readLink_97 ?_
            refine lv_if_eq (tgt := 104) hx hb dX11_readLink_100 rfl (fun c9 => absurd c9 (c194)) (fun _ => ?_)
            have hPD9 := cl_s (wc := [(m0, .inr (11, oX11 ra y186)), (ra 2, .inl (kI, 8, .inl q_told)), (ra 8, .inl (kI, 40, .inl q_from)), (ra 9, .inl (kI, 40, .inl q_to)), (ra 13, .inl (kI, 700, .inl q_tape))]) hP hD [3, 4, 2, 0, 1] rfl (by decide +kernel)
            have hP9 := hPD9.1
            have hD9 := hPD9.2
            exact W.vret hx hb hr (fun t ht hW => ⟨⟨(), rfl, trivial, y186, q_told, q_from, q_to, hq187, hq_told, hq_from, hq_to, (show (x0 2).toInt ≤ (y186 2).toInt from by omega), (show y186 3 = x0 3 from hq189.trans (hq177.trans (hq21.trans (hq10)))), (show ∀ j : Nat, (j : Int) < (q_told 1).toInt → (q_from j).toInt < (q_to j).toInt from hLT), (show ∀ j : Nat, (j : Int) < (q_told 5).toInt → (q_from (20 + j)).toInt < (q_to (20 + j)).toInt from hLD), (show RRd tT nN y186 (lnkS tT nN sS (q_told 4) (q_told 5) (shT 20 q_from) (shT 20 q_to)) from it_f (Q := RRd tT nN y186) c1 ((rr_stepN hrr196 c194))), (show y186 8 = 0 → q_told = upd q_told 5 (q_told 5 + 1) ∧ q_from = upd q_from ((20 + (q_told 5)).toNatClampNeg) (lnkA tT nN sS) ∧ q_to = upd q_to ((20 + (q_told 5)).toNatClampNeg) (lnkB tT nN sS (q_told 4) (q_told 5) (shT 20 q_from)) from fun w => absurd w c194), (show y186 1 = x0 1 from hq191.trans (hq179.trans (hq23.trans (hq13)))), (show y186 10 = x0 10 from hq192.trans (hq180.trans (hq24.trans (hq14)))), (show y186 23 = x0 23 from hq193.trans (hq181.trans (hq25.trans (hq15)))), by rw [ht]; exact hP9, hD9⟩, hS.F ht⟩) hS.2.2 dX11_readLink_103
          · have b197 : iv 0 0 (y186 8) := iv_eqL c194 ivk_0
            refine lv_iload_n hx hb dX11_readLink_77 rfl (lv_at hl 0 rfl) ?_
            refine lv_iload_n hx hb dX11_readLink_78 rfl (lv_at hl 1 rfl) ?_
            refine lv_icmp_le (tgt := 91) hx hb dX11_readLink_79 rfl (fun c198 => ?_) (fun c198 => ?_)
            · refine lv_aload_n hx hb dX11_readLink_91 rfl (lv_at hl 2 rfl) ?_
              refine lv_iconst (v := 5) hx hb dX11_readLink_92 ic_5 ?_
              obtain ⟨hPc, hDc, hFc, hJn⟩ := cl_a (wc := [(m0, .inr (11, oX11 ra y186))]) (wr := [(ra 9, .inl (kI, 40, .inl q_to)), (ra 13, .inl (kI, 700, .inl q_tape)), (ra 8, .inl (kI, 40, .inl q_from)), (ra 2, .inl (kI, 8, .inl q_told))]) hP hD hS hA [3] [0, 1, 2, 4] rfl rfl (by decide +kernel)
              refine va_callv (va_runV (As := [.int 5]) (rest := []) ⟨hx, hb, hml, hown, hts⟩ (s11_wrong l dC dI kB kI kJ kZ kC kS H.size m0 ra y186 5 tT nN (rouT tT (q_told 4) (lnk2 tT nN sS (q_told 4) (q_told 5) (shT 20 q_from))) (hq187) ((iv_w ivk_5 (by decide) (by decide))) (hq190)) (cwV 1 hts gX11_readLink_X11_wrong rfl rfl rfl (by decide +kernel) ⟨Nat.le_of_ble_eq_true rfl, Nat.le_of_ble_eq_true rfl⟩) ⟨fun a U g mk q => by obtain ⟨q0, q1, qP, qE, qD⟩ := q; exact ⟨q0, q1, qP, kE_call qE, qD⟩, va_recv hK hP (ci := 11) (q0 := 3) rfl rfl, fun U hU hW => ⟨rfl, by rw [hU], by rw [hU]; exact hPc, kE_warm hW hE, hDc.weaken (fun _ _ _ _ => trivial)⟩⟩ rfl rfl hl.1 rfl (lv_room (Nat.le_of_ble_eq_true rfl)) dX11_readLink_93 ⟨Nat.le_of_ble_eq_true rfl, Nat.le_of_ble_eq_true rfl⟩) hS (fun q _ h => hFc q h) hFc (fun u t H locs ht hvm w200 hB hz1 hk1 hS => ?_)
              obtain ⟨y201, hq202, hq203, hq204, hq205, hq206, hq207, hq208, hq209, hP1, hD1⟩ := hB
              try dsimp only at w200
              obtain ⟨hPa, hDa⟩ := hJn (w1 := [(m0, .inr (11, oX11 ra y201))]) hk1 ht hP1 hD1
              clear hP hD hPc hDc hFc hJn hP1 hD1 hk1
              have hP : va_P (dC, dI) vwCl [(ra 9, .inl (kI, 40, .inl q_to)), (ra 13, .inl (kI, 700, .inl q_tape)), (ra 8, .inl (kI, 40, .inl q_from)), (ra 2, .inl (kI, 8, .inl q_told)), (m0, .inr (11, oX11 ra y201))] H := hPa
              have hD : va_D A [(ra 9, .inl (kI, 40, .inl q_to)), (ra 13, .inl (kI, 700, .inl q_tape)), (ra 8, .inl (kI, 40, .inl q_from)), (ra 2, .inl (kI, 8, .inl q_told)), (m0, .inr (11, oX11 ra y201))] := hDa
              clear hPa hDa
              refine W.widen (k := 0) (n := 0) (Nat.le_of_ble_eq_true rfl) (Nat.le_of_ble_eq_true rfl) ?_
              have hok9 := rr_ok hq190 c194
              have hb9 := hv8 hok9
              have ha9 := hv9 (ok_ite (ok_next (ok_num (ok_rou hok9)))).1
              have hrr210 : RRd tT nN y201 (iteT (lnkB tT nN sS (q_told 4) (q_told 5) (shT 20 q_from) ≤ lnkA tT nN sS ∨ hasT (shT 20 q_from) (shT 20 q_to) (q_told 5) (lnkA tT nN sS) (lnkB tT nN sS (q_told 4) (q_told 5) (shT 20 q_from))) (failT 5 (lnk3 tT nN sS (q_told 4) (q_told 5) (shT 20 q_from))) (lnk3 tT nN sS (q_told 4) (q_told 5) (shT 20 q_from))) := it_t (Q := RRd tT nN y201) (Or.inl (by have q := c198; rw [ha9, hb9] at q; exact q)) (hq206)
              refine lv_aload_n hx hb dX11_readLink_96 rfl (lv_at hl 2 rfl) ?_
              refine va_get (D := (dC, dI)) (ci := 11) (v := .int (y201 8)) (C := RX11) (T := TX11) (N := 61) hx hb hts hin11 hown hK hP 4 rfl rfl 22 (Nat.le_of_ble_eq_true rfl) hw_1 (fun _ h9 => h9) rfl dX11_readLink_97 ?_
              refine lv_if_eq (tgt := 104) hx hb dX11_readLink_100 rfl (fun c9 => absurd c9 (iv_ne hq203 ivk_0 (by decide))) (fun _ => ?_)
              have hPD9 := cl_s (wc := [(m0, .inr (11, oX11 ra y201)), (ra 2, .inl (kI, 8, .inl q_told)), (ra 8, .inl (kI, 40, .inl q_from)), (ra 9, .inl (kI, 40, .inl q_to)), (ra 13, .inl (kI, 700, .inl q_tape))]) hP hD [4, 3, 2, 0, 1] rfl (by decide +kernel)
              have hP9 := hPD9.1
              have hD9 := hPD9.2
              exact W.vret hx hb hr (fun t ht hW => ⟨⟨(), rfl, trivial, y201, q_told, q_from, q_to, hq202, hq_told, hq_from, hq_to, (show (x0 2).toInt ≤ (y201 2).toInt from by omega), (show y201 3 = x0 3 from hq205.trans (hq189.trans (hq177.trans (hq21.trans (hq10))))), (show ∀ j : Nat, (j : Int) < (q_told 1).toInt → (q_from j).toInt < (q_to j).toInt from hLT), (show ∀ j : Nat, (j : Int) < (q_told 5).toInt → (q_from (20 + j)).toInt < (q_to (20 + j)).toInt from hLD), (show RRd tT nN y201 (lnkS tT nN sS (q_told 4) (q_told 5) (shT 20 q_from) (shT 20 q_to)) from it_f (Q := RRd tT nN y201) c1 ((rr_stepN hrr210 (iv_ne hq203 ivk_0 (by decide))))), (show y201 8 = 0 → q_told = upd q_told 5 (q_told 5 + 1) ∧ q_from = upd q_from ((20 + (q_told 5)).toNatClampNeg) (lnkA tT nN sS) ∧ q_to = upd q_to ((20 + (q_told 5)).toNatClampNeg) (lnkB tT nN sS (q_told 4) (q_told 5) (shT 20 q_from)) from fun w => absurd w (iv_ne hq203 ivk_0 (by decide))), (show y201 1 = x0 1 from hq207.trans (hq191.trans (hq179.trans (hq23.trans (hq13))))), (show y201 10 = x0 10 from hq208.trans (hq192.trans (hq180.trans (hq24.trans (hq14))))), (show y201 23 = x0 23 from hq209.trans (hq193.trans (hq181.trans (hq25.trans (hq15))))), by rw [ht]; exact hP9, hD9⟩, hS.F ht⟩) hS.2.2 dX11_readLink_103
            · have b211 : iv 0 10 r16 := iv_ltL (Int32.not_le.mp c198) w17.1 w185.1 (by decide) (by decide)
              have b212 : iv 1 11 r184 := iv_ltR (Int32.not_le.mp c198) w17.1 w185.1 (by decide) (by decide)
              refine lv_aload_n hx hb dX11_readLink_82 rfl (lv_at hl 2 rfl) ?_
              refine lv_iload_n hx hb dX11_readLink_83 rfl (lv_at hl 1 rfl) ?_
              refine lv_iload_n hx hb dX11_readLink_84 rfl (lv_at hl 0 rfl) ?_
              obtain ⟨hPc, hDc, hFc, hJn⟩ := cl_a (wc := [(m0, .inr (11, oX11 ra y186)), (ra 2, .inl (kI, 8, .inl q_told)), (ra 8, .inl (kI, 40, .inl q_from)), (ra 9, .inl (kI, 40, .inl q_to))]) (wr := [(ra 13, .inl (kI, 700, .inl q_tape))]) hP hD hS hA [3, 4, 2, 0] [1] rfl rfl (by decide +kernel)
              refine va_calli (va_runV (As := [.int r16, .int r184]) (rest := []) ⟨hx, hb, hml, hown, hts⟩ (s11_hasLink l dC dI kB kI kJ kZ kC kS H.size m0 ra y186 q_told q_from q_to r16 r184 (hq187) (hq_told) (hq_from) (hq_to)) (cwV 2 hts gX11_readLink_X11_hasLink rfl rfl rfl (by decide +kernel) ⟨Nat.le_of_ble_eq_true rfl, Nat.le_of_ble_eq_true rfl⟩) ⟨fun a U g mk q => by obtain ⟨q0, q1, qP, qE, qD⟩ := q; exact ⟨q0, q1, qP, kE_call qE, qD⟩, va_recv hK hP (ci := 11) (q0 := 3) rfl rfl, fun U hU hW => ⟨rfl, by rw [hU], by rw [hU]; exact hPc, kE_warm hW hE, hDc.weaken (fun _ _ _ _ => trivial)⟩⟩ rfl rfl hl.1 rfl (lv_room (Nat.le_of_ble_eq_true rfl)) dX11_readLink_85 ⟨Nat.le_of_ble_eq_true rfl, Nat.le_of_ble_eq_true rfl⟩) hS (fun q _ h => hFc q h) hFc (fun r213 u t H locs ht hvm w214 hB hz1 hk1 hS => ?_)
              obtain ⟨hP1, hD1⟩ := hB
              try dsimp only at w214
              obtain ⟨hPa, hDa⟩ := hJn (w1 := [(m0, .inr (11, oX11 ra y186)), (ra 2, .inl (kI, 8, .inl q_told)), (ra 8, .inl (kI, 40, .inl q_from)), (ra 9, .inl (kI, 40, .inl q_to))]) hk1 ht hP1 hD1
              clear hP hD hPc hDc hFc hJn hP1 hD1 hk1
              have hP : va_P (dC, dI) vwCl [(ra 13, .inl (kI, 700, .inl q_tape)), (m0, .inr (11, oX11 ra y186)), (ra 2, .inl (kI, 8, .inl q_told)), (ra 8, .inl (kI, 40, .inl q_from)), (ra 9, .inl (kI, 40, .inl q_to))] H := hPa
              have hD : va_D A [(ra 13, .inl (kI, 700, .inl q_tape)), (m0, .inr (11, oX11 ra y186)), (ra 2, .inl (kI, 8, .inl q_told)), (ra 8, .inl (kI, 40, .inl q_from)), (ra 9, .inl (kI, 40, .inl q_to))] := hDa
              clear hPa hDa
              refine W.widen (k := 0) (n := 0) (Nat.le_of_ble_eq_true rfl) (Nat.le_of_ble_eq_true rfl) ?_
              have hh9 := w214.2
              refine lv_if_eq (tgt := 96) hx hb dX11_readLink_88 rfl (fun c215 => ?_) (fun c215 => ?_)
              · have b216 : iv 0 0 r213 := iv_eqL c215 ivk_0
                have hok9 := rr_ok hq190 c194
                have hb9 := hv8 hok9
                have ha9 := hv9 (ok_ite (ok_next (ok_num (ok_rou hok9)))).1
                have hrr217 : RRd tT nN y186 (iteT (lnkB tT nN sS (q_told 4) (q_told 5) (shT 20 q_from) ≤ lnkA tT nN sS ∨ hasT (shT 20 q_from) (shT 20 q_to) (q_told 5) (lnkA tT nN sS) (lnkB tT nN sS (q_told 4) (q_told 5) (shT 20 q_from))) (failT 5 (lnk3 tT nN sS (q_told 4) (q_told 5) (shT 20 q_from))) (lnk3 tT nN sS (q_told 4) (q_told 5) (shT 20 q_from))) := it_f (Q := RRd tT nN y186) (by have q := (hh9.resolve_right (fun w => w.1 c215)).2; have q2 := Int32.not_le.mpr (Int32.not_le.mp c198); rw [ha9, hb9] at q q2; exact fun w => w.elim q2 q) (hq190)
                refine lv_aload_n hx hb dX11_readLink_96 rfl (lv_at hl 2 rfl) ?_
                refine va_get (D := (dC, dI)) (ci := 11) (v := .int (y186 8)) (C := RX11) (T := TX11) (N := 61) hx hb hts hin11 hown hK hP 1 rfl rfl 22 (Nat.le_of_ble_eq_true rfl) hw_1 (fun _ h9 => h9) rfl dX11_readLink_97 ?_
                refine lv_if_eq (tgt := 104) hx hb dX11_readLink_100 rfl (fun _ => ?_) (fun c9 => absurd (c194) c9)
                refine lv_aload_n hx hb dX11_readLink_104 rfl (lv_at hl 2 rfl) ?_
                obtain ⟨hPc, hDc, hFc, hJn⟩ := cl_a (wc := [(m0, .inr (11, oX11 ra y186)), (ra 13, .inl (kI, 700, .inl q_tape))]) (wr := [(ra 2, .inl (kI, 8, .inl q_told)), (ra 8, .inl (kI, 40, .inl q_from)), (ra 9, .inl (kI, 40, .inl q_to))]) hP hD hS hA [1, 0] [2, 3, 4] rfl rfl (by decide +kernel)
                refine va_callv (va_runV (As := []) (rest := []) ⟨hx, hb, hml, hown, hts⟩ (s11_stepOn l dC dI kB kI kJ kZ kC kS H.size m0 ra y186 q_tape tT nN (nextT tT nN (iteT (lnkB tT nN sS (q_told 4) (q_told 5) (shT 20 q_from) ≤ lnkA tT nN sS ∨ hasT (shT 20 q_from) (shT 20 q_to) (q_told 5) (lnkA tT nN sS) (lnkB tT nN sS (q_told 4) (q_told 5) (shT 20 q_from))) (failT 5 (lnk3 tT nN sS (q_told 4) (q_told 5) (shT 20 q_from))) (lnk3 tT nN sS (q_told 4) (q_told 5) (shT 20 q_from)))) (hq187) (hq_tape) (hrr217.2) (stp_of hrr217) (hTQ)) (cwV 0 hts gX11_readLink_X11_stepOn rfl rfl rfl (by decide +kernel) ⟨Nat.le_of_ble_eq_true rfl, Nat.le_of_ble_eq_true rfl⟩) ⟨fun a U g mk q => by obtain ⟨q0, q1, qP, qE, qD⟩ := q; exact ⟨q0, q1, qP, kE_call qE, qD⟩, va_recv hK hP (ci := 11) (q0 := 1) rfl rfl, fun U hU hW => ⟨rfl, by rw [hU], by rw [hU]; exact hPc, kE_warm hW hE, hDc.weaken (fun _ _ _ _ => trivial)⟩⟩ rfl rfl hl.1 rfl (lv_room (Nat.le_of_ble_eq_true rfl)) dX11_readLink_105 ⟨Nat.le_of_ble_eq_true rfl, Nat.le_of_ble_eq_true rfl⟩) hS (fun q _ h => hFc q h) hFc (fun u t H locs ht hvm w219 hB hz1 hk1 hS => ?_)
                obtain ⟨y220, hq221, hq222, hq223, hq224, hq225, hq226, hq227, hq228, hP1, hD1⟩ := hB
                try dsimp only at w219
                obtain ⟨hPa, hDa⟩ := hJn (w1 := [(m0, .inr (11, oX11 ra y220)), (ra 13, .inl (kI, 700, .inl q_tape))]) hk1 ht hP1 hD1
                clear hP hD hPc hDc hFc hJn hP1 hD1 hk1
                have hP : va_P (dC, dI) vwCl [(ra 2, .inl (kI, 8, .inl q_told)), (ra 8, .inl (kI, 40, .inl q_from)), (ra 9, .inl (kI, 40, .inl q_to)), (m0, .inr (11, oX11 ra y220)), (ra 13, .inl (kI, 700, .inl q_tape))] H := hPa
                have hD : va_D A [(ra 2, .inl (kI, 8, .inl q_told)), (ra 8, .inl (kI, 40, .inl q_from)), (ra 9, .inl (kI, 40, .inl q_to)), (m0, .inr (11, oX11 ra y220)), (ra 13, .inl (kI, 700, .inl q_tape))] := hDa
                clear hPa hDa
                refine W.widen (k := 0) (n := 0) (Nat.le_of_ble_eq_true rfl) (Nat.le_of_ble_eq_true rfl) ?_
                refine lv_aload_n hx hb dX11_readLink_108 rfl (lv_at hl 2 rfl) ?_
                refine va_get (D := (dC, dI)) (ci := 11) (v := .ref (ra 8)) (C := RX11) (T := TX11) (N := 61) hx hb hts hin11 hown hK hP 3 rfl rfl 9 (Nat.le_of_ble_eq_true rfl) hw_2 (fun _ h9 => h9) rfl dX11_readLink_109 ?_
                refine lv_bipush (v := 20) hx hb dX11_readLink_112 bp_20 ?_
                refine lv_aload_n hx hb dX11_readLink_114 rfl (lv_at hl 2 rfl) ?_
                refine va_get (D := (dC, dI)) (ci := 11) (v := .ref (ra 2)) (C := RX11) (T := TX11) (N := 61) hx hb hts hin11 hown hK hP 3 rfl rfl 3 (Nat.le_of_ble_eq_true rfl) hw_0 (fun _ h9 => h9) rfl dX11_readLink_115 ?_
                refine lv_iconst (v := 5) hx hb dX11_readLink_118 ic_5 ?_
                refine va_iald hx hb hK hP 0 1 rfl rfl (vp_in_nI (n := 5) (by decide) (by decide)) dX11_readLink_119 ?_
                refine W.eq (g2 := F0 m 120 ls [.int (q_told 5), .int 20, .ref (ra 8)]) rfl ?_
                refine lv_iadd hx hb dX11_readLink_120 ?_
                have b229 : iv 20 39 (20 + (q_told 5)) := iv_add ivk_20 b2 (by decide) (by decide) (by decide) (by decide)
                refine lv_iload_n hx hb dX11_readLink_121 rfl (lv_at hl 1 rfl) ?_
                refine va_iast hx hb hK hP hD hS 1 1 rfl rfl (iv_in b229 (by decide) (by decide)) dX11_readLink_122 (fun H locs hPa hDa hS => ?_)
                clear hP hD
                have hP : va_P (dC, dI) vwCl [(ra 2, .inl (kI, 8, .inl q_told)), (ra 8, .inl (kI, 40, .inl (upd q_from (20 + (q_told 5)).toNatClampNeg r16))), (ra 9, .inl (kI, 40, .inl q_to)), (m0, .inr (11, oX11 ra y220)), (ra 13, .inl (kI, 700, .inl q_tape))] H := hPa
                have hD : va_D A [(ra 2, .inl (kI, 8, .inl q_told)), (ra 8, .inl (kI, 40, .inl (upd q_from (20 + (q_told 5)).toNatClampNeg r16))), (ra 9, .inl (kI, 40, .inl q_to)), (m0, .inr (11, oX11 ra y220)), (ra 13, .inl (kI, 700, .inl q_tape))] := hDa
                clear hPa hDa
                refine lv_aload_n hx hb dX11_readLink_123 rfl (lv_at hl 2 rfl) ?_
                refine va_get (D := (dC, dI)) (ci := 11) (v := .ref (ra 9)) (C := RX11) (T := TX11) (N := 61) hx hb hts hin11 hown hK hP 3 rfl rfl 10 (Nat.le_of_ble_eq_true rfl) hw_3 (fun _ h9 => h9) rfl dX11_readLink_124 ?_
                refine lv_bipush (v := 20) hx hb dX11_readLink_127 bp_20 ?_
                refine lv_aload_n hx hb dX11_readLink_129 rfl (lv_at hl 2 rfl) ?_
                refine va_get (D := (dC, dI)) (ci := 11) (v := .ref (ra 2)) (C := RX11) (T := TX11) (N := 61) hx hb hts hin11 hown hK hP 3 rfl rfl 3 (Nat.le_of_ble_eq_true rfl) hw_0 (fun _ h9 => h9) rfl dX11_readLink_130 ?_
                refine lv_iconst (v := 5) hx hb dX11_readLink_133 ic_5 ?_
                refine va_iald hx hb hK hP 0 1 rfl rfl (vp_in_nI (n := 5) (by decide) (by decide)) dX11_readLink_134 ?_
                refine W.eq (g2 := F0 m 135 ls [.int (q_told 5), .int 20, .ref (ra 9)]) rfl ?_
                refine lv_iadd hx hb dX11_readLink_135 ?_
                have b230 : iv 20 39 (20 + (q_told 5)) := iv_add ivk_20 b2 (by decide) (by decide) (by decide) (by decide)
                refine lv_iload_n hx hb dX11_readLink_136 rfl (lv_at hl 0 rfl) ?_
                refine va_iast hx hb hK hP hD hS 2 1 rfl rfl (iv_in b230 (by decide) (by decide)) dX11_readLink_137 (fun H locs hPa hDa hS => ?_)
                clear hP hD
                have hP : va_P (dC, dI) vwCl [(ra 2, .inl (kI, 8, .inl q_told)), (ra 8, .inl (kI, 40, .inl (upd q_from (20 + (q_told 5)).toNatClampNeg r16))), (ra 9, .inl (kI, 40, .inl (upd q_to (20 + (q_told 5)).toNatClampNeg r184))), (m0, .inr (11, oX11 ra y220)), (ra 13, .inl (kI, 700, .inl q_tape))] H := hPa
                have hD : va_D A [(ra 2, .inl (kI, 8, .inl q_told)), (ra 8, .inl (kI, 40, .inl (upd q_from (20 + (q_told 5)).toNatClampNeg r16))), (ra 9, .inl (kI, 40, .inl (upd q_to (20 + (q_told 5)).toNatClampNeg r184))), (m0, .inr (11, oX11 ra y220)), (ra 13, .inl (kI, 700, .inl q_tape))] := hDa
                clear hPa hDa
                refine lv_aload_n hx hb dX11_readLink_138 rfl (lv_at hl 2 rfl) ?_
                refine va_get (D := (dC, dI)) (ci := 11) (v := .ref (ra 2)) (C := RX11) (T := TX11) (N := 61) hx hb hts hin11 hown hK hP 3 rfl rfl 3 (Nat.le_of_ble_eq_true rfl) hw_0 (fun _ h9 => h9) rfl dX11_readLink_139 ?_
                refine lv_iconst (v := 5) hx hb dX11_readLink_142 ic_5 ?_
                refine lv_dup2_11 hx hb dX11_readLink_143 rfl rfl ?_
                refine va_iald hx hb hK hP 0 1 rfl rfl (vp_in_nI (n := 5) (by decide) (by decide)) dX11_readLink_144 ?_
                refine W.eq (g2 := F0 m 145 ls [.int (q_told 5), .int 5, .ref (ra 2)]) rfl ?_
                refine lv_iconst (v := 1) hx hb dX11_readLink_145 ic_1 ?_
                refine lv_iadd hx hb dX11_readLink_146 ?_
                have b231 : iv 1 20 ((q_told 5) + 1) := iv_add b2 ivk_1 (by decide) (by decide) (by decide) (by decide)
                refine va_iast hx hb hK hP hD hS 0 1 rfl rfl (vp_in_nI (n := 5) (by decide) (by decide)) dX11_readLink_147 (fun H locs hPa hDa hS => ?_)
                clear hP hD
                have hP : va_P (dC, dI) vwCl [(ra 2, .inl (kI, 8, .inl (upd q_told 5 ((q_told 5) + 1)))), (ra 8, .inl (kI, 40, .inl (upd q_from (20 + (q_told 5)).toNatClampNeg r16))), (ra 9, .inl (kI, 40, .inl (upd q_to (20 + (q_told 5)).toNatClampNeg r184))), (m0, .inr (11, oX11 ra y220)), (ra 13, .inl (kI, 700, .inl q_tape))] H := hPa
                have hD : va_D A [(ra 2, .inl (kI, 8, .inl (upd q_told 5 ((q_told 5) + 1)))), (ra 8, .inl (kI, 40, .inl (upd q_from (20 + (q_told 5)).toNatClampNeg r16))), (ra 9, .inl (kI, 40, .inl (upd q_to (20 + (q_told 5)).toNatClampNeg r184))), (m0, .inr (11, oX11 ra y220)), (ra 13, .inl (kI, 700, .inl q_tape))] := hDa
                clear hPa hDa
                have hPD9 := cl_s (wc := [(m0, .inr (11, oX11 ra y220)), (ra 2, .inl (kI, 8, .inl (upd q_told 5 ((q_told 5) + 1)))), (ra 8, .inl (kI, 40, .inl (upd q_from (20 + (q_told 5)).toNatClampNeg r16))), (ra 9, .inl (kI, 40, .inl (upd q_to (20 + (q_told 5)).toNatClampNeg r184))), (ra 13, .inl (kI, 700, .inl q_tape))]) hP hD [3, 0, 1, 2, 4] rfl (by decide +kernel)
                have hP9 := hPD9.1
                have hD9 := hPD9.2
                exact W.vret hx hb hr (fun t ht hW => ⟨⟨(), rfl, trivial, y220, upd q_told 5 ((q_told 5) + 1), upd q_from (20 + (q_told 5)).toNatClampNeg r16, upd q_to (20 + (q_told 5)).toNatClampNeg r184, hq221, (fI_u hq_told (k := 5) ((iv_w b231 (by decide) (by decide)))), (fI_u hq_from (k := (20 + (q_told 5)).toNatClampNeg) ((iv_w b211 (by decide) (by decide)))), (fI_u hq_to (k := (20 + (q_told 5)).toNatClampNeg) ((iv_w b212 (by decide) (by decide)))), (show (x0 2).toInt ≤ (y220 2).toInt from by omega), (show y220 3 = x0 3 from hq223.trans (hq189.trans (hq177.trans (hq21.trans (hq10))))), lk_lt hLT (hq_told 1) (hq_told 5), lk_ld hLD b2 (Int32.not_le.mp c198), (show RRd tT nN y220 (lnkS tT nN sS (q_told 4) (q_told 5) (shT 20 q_from) (shT 20 q_to)) from it_f (Q := RRd tT nN y220) c1 (hq225)), fun _ => ⟨rfl, congrArg (upd q_from ((20 + (q_told 5)).toNatClampNeg)) (hv9 (ok_ite (ok_next (ok_num (ok_rou (ok_ite (rr_ok hrr217 c194)).1)))).1), congrArg (upd q_to ((20 + (q_told 5)).toNatClampNeg)) (hv8 (ok_ite (rr_ok hrr217 c194)).1)⟩, (show y220 1 = x0 1 from hq226.trans (hq191.trans (hq179.trans (hq23.trans (hq13))))), (show y220 10 = x0 10 from hq227.trans (hq192.trans (hq180.trans (hq24.trans (hq14))))), (show y220 23 = x0 23 from hq228.trans (hq193.trans (hq181.trans (hq25.trans (hq15))))), by rw [ht]; exact hP9, hD9⟩, hS.F ht⟩) hS.2.2 dX11_readLink_148
              · have b232 : iv 1 1 r213 := iv_neLo c215 w214.1 ivk_0 (by decide) (by decide)
                refine lv_aload_n hx hb dX11_readLink_91 rfl (lv_at hl 2 rfl) ?_
                refine lv_iconst (v := 5) hx hb dX11_readLink_92 ic_5 ?_
                obtain ⟨hPc, hDc, hFc, hJn⟩ := cl_a (wc := [(m0, .inr (11, oX11 ra y186))]) (wr := [(ra 13, .inl (kI, 700, .inl q_tape)), (ra 2, .inl (kI, 8, .inl q_told)), (ra 8, .inl (kI, 40, .inl q_from)), (ra 9, .inl (kI, 40, .inl q_to))]) hP hD hS hA [1] [0, 2, 3, 4] rfl rfl (by decide +kernel)
                refine va_callv (va_runV (As := [.int 5]) (rest := []) ⟨hx, hb, hml, hown, hts⟩ (s11_wrong l dC dI kB kI kJ kZ kC kS H.size m0 ra y186 5 tT nN (rouT tT (q_told 4) (lnk2 tT nN sS (q_told 4) (q_told 5) (shT 20 q_from))) (hq187) ((iv_w ivk_5 (by decide) (by decide))) (hq190)) (cwV 1 hts gX11_readLink_X11_wrong rfl rfl rfl (by decide +kernel) ⟨Nat.le_of_ble_eq_true rfl, Nat.le_of_ble_eq_true rfl⟩) ⟨fun a U g mk q => by obtain ⟨q0, q1, qP, qE, qD⟩ := q; exact ⟨q0, q1, qP, kE_call qE, qD⟩, va_recv hK hP (ci := 11) (q0 := 1) rfl rfl, fun U hU hW => ⟨rfl, by rw [hU], by rw [hU]; exact hPc, kE_warm hW hE, hDc.weaken (fun _ _ _ _ => trivial)⟩⟩ rfl rfl hl.1 rfl (lv_room (Nat.le_of_ble_eq_true rfl)) dX11_readLink_93 ⟨Nat.le_of_ble_eq_true rfl, Nat.le_of_ble_eq_true rfl⟩) hS (fun q _ h => hFc q h) hFc (fun u t H locs ht hvm w234 hB hz1 hk1 hS => ?_)
                obtain ⟨y235, hq236, hq237, hq238, hq239, hq240, hq241, hq242, hq243, hP1, hD1⟩ := hB
                try dsimp only at w234
                obtain ⟨hPa, hDa⟩ := hJn (w1 := [(m0, .inr (11, oX11 ra y235))]) hk1 ht hP1 hD1
                clear hP hD hPc hDc hFc hJn hP1 hD1 hk1
                have hP : va_P (dC, dI) vwCl [(ra 13, .inl (kI, 700, .inl q_tape)), (ra 2, .inl (kI, 8, .inl q_told)), (ra 8, .inl (kI, 40, .inl q_from)), (ra 9, .inl (kI, 40, .inl q_to)), (m0, .inr (11, oX11 ra y235))] H := hPa
                have hD : va_D A [(ra 13, .inl (kI, 700, .inl q_tape)), (ra 2, .inl (kI, 8, .inl q_told)), (ra 8, .inl (kI, 40, .inl q_from)), (ra 9, .inl (kI, 40, .inl q_to)), (m0, .inr (11, oX11 ra y235))] := hDa
                clear hPa hDa
                refine W.widen (k := 0) (n := 0) (Nat.le_of_ble_eq_true rfl) (Nat.le_of_ble_eq_true rfl) ?_
                have hok9 := rr_ok hq190 c194
                have hb9 := hv8 hok9
                have ha9 := hv9 (ok_ite (ok_next (ok_num (ok_rou hok9)))).1
                have hrr244 : RRd tT nN y235 (iteT (lnkB tT nN sS (q_told 4) (q_told 5) (shT 20 q_from) ≤ lnkA tT nN sS ∨ hasT (shT 20 q_from) (shT 20 q_to) (q_told 5) (lnkA tT nN sS) (lnkB tT nN sS (q_told 4) (q_told 5) (shT 20 q_from))) (failT 5 (lnk3 tT nN sS (q_told 4) (q_told 5) (shT 20 q_from))) (lnk3 tT nN sS (q_told 4) (q_told 5) (shT 20 q_from))) := it_t (Q := RRd tT nN y235) (Or.inr (by have q := (hh9.resolve_left (fun w => c215 w.1)).2; rw [ha9, hb9] at q; exact q)) (hq240)
                refine lv_aload_n hx hb dX11_readLink_96 rfl (lv_at hl 2 rfl) ?_
                refine va_get (D := (dC, dI)) (ci := 11) (v := .int (y235 8)) (C := RX11) (T := TX11) (N := 61) hx hb hts hin11 hown hK hP 4 rfl rfl 22 (Nat.le_of_ble_eq_true rfl) hw_1 (fun _ h9 => h9) rfl dX11_readLink_97 ?_
                refine lv_if_eq (tgt := 104) hx hb dX11_readLink_100 rfl (fun c9 => absurd c9 (iv_ne hq237 ivk_0 (by decide))) (fun _ => ?_)
                have hPD9 := cl_s (wc := [(m0, .inr (11, oX11 ra y235)), (ra 2, .inl (kI, 8, .inl q_told)), (ra 8, .inl (kI, 40, .inl q_from)), (ra 9, .inl (kI, 40, .inl q_to)), (ra 13, .inl (kI, 700, .inl q_tape))]) hP hD [4, 1, 2, 3, 0] rfl (by decide +kernel)
                have hP9 := hPD9.1
                have hD9 := hPD9.2
                exact W.vret hx hb hr (fun t ht hW => ⟨⟨(), rfl, trivial, y235, q_told, q_from, q_to, hq236, hq_told, hq_from, hq_to, (show (x0 2).toInt ≤ (y235 2).toInt from by omega), (show y235 3 = x0 3 from hq239.trans (hq189.trans (hq177.trans (hq21.trans (hq10))))), (show ∀ j : Nat, (j : Int) < (q_told 1).toInt → (q_from j).toInt < (q_to j).toInt from hLT), (show ∀ j : Nat, (j : Int) < (q_told 5).toInt → (q_from (20 + j)).toInt < (q_to (20 + j)).toInt from hLD), (show RRd tT nN y235 (lnkS tT nN sS (q_told 4) (q_told 5) (shT 20 q_from) (shT 20 q_to)) from it_f (Q := RRd tT nN y235) c1 ((rr_stepN hrr244 (iv_ne hq237 ivk_0 (by decide))))), (show y235 8 = 0 → q_told = upd q_told 5 (q_told 5 + 1) ∧ q_from = upd q_from ((20 + (q_told 5)).toNatClampNeg) (lnkA tT nN sS) ∧ q_to = upd q_to ((20 + (q_told 5)).toNatClampNeg) (lnkB tT nN sS (q_told 4) (q_told 5) (shT 20 q_from)) from fun w => absurd w (iv_ne hq237 ivk_0 (by decide))), (show y235 1 = x0 1 from hq241.trans (hq191.trans (hq179.trans (hq23.trans (hq13))))), (show y235 10 = x0 10 from hq242.trans (hq192.trans (hq180.trans (hq24.trans (hq14))))), (show y235 23 = x0 23 from hq243.trans (hq193.trans (hq181.trans (hq25.trans (hq15))))), by rw [ht]; exact hP9, hD9⟩, hS.F ht⟩) hS.2.2 dX11_readLink_103
    · have b245 : iv 1 5 (x0 8) := iv_neLo c3 (hX 8 : iv 0 5 (x0 8)) ivk_0 (by decide) (by decide)
      have hP9 := hP
      have hD9 := hD
      exact W.vret hx hb hr (fun t ht hW => ⟨⟨(), rfl, trivial, x0, q_told, q_from, q_to, hX, hq_told, hq_from, hq_to, (show (x0 2).toInt ≤ (x0 2).toInt from by omega), (show x0 3 = x0 3 from rfl), (show ∀ j : Nat, (j : Int) < (q_told 1).toInt → (q_from j).toInt < (q_to j).toInt from hLT), (show ∀ j : Nat, (j : Int) < (q_told 5).toInt → (q_from (20 + j)).toInt < (q_to (20 + j)).toInt from hLD), (show RRd tT nN x0 (lnkS tT nN sS (q_told 4) (q_told 5) (shT 20 q_from) (shT 20 q_to)) from (lk_in hRr c3) ▸ hRr), (show x0 8 = 0 → q_told = upd q_told 5 (q_told 5 + 1) ∧ q_from = upd q_from ((20 + (q_told 5)).toNatClampNeg) (lnkA tT nN sS) ∧ q_to = upd q_to ((20 + (q_told 5)).toNatClampNeg) (lnkB tT nN sS (q_told 4) (q_told 5) (shT 20 q_from)) from fun w => absurd w c3), (show x0 1 = x0 1 from rfl), (show x0 10 = x0 10 from rfl), (show x0 23 = x0 23 from rfl), by rw [ht]; exact hP9, hD9⟩, hS.F ht⟩) hS.2.2 dX11_readLink_23
  · have b246 : iv 20 20 (q_told 5) := iv_eqL c1 ivk_20
    refine lv_aload_n hx hb dX11_readLink_11 rfl (lv_at hl 0 rfl) ?_
    refine lv_iconst (v := 2) hx hb dX11_readLink_12 ic_2 ?_
    obtain ⟨hPc, hDc, hFc, hJn⟩ := cl_a (wc := [(m0, .inr (11, oX11 ra x0))]) (wr := [(ra 2, .inl (kI, 8, .inl q_told)), (ra 8, .inl (kI, 40, .inl q_from)), (ra 9, .inl (kI, 40, .inl q_to)), (ra 13, .inl (kI, 700, .inl q_tape))]) hP hD hS hA [0] [1, 2, 3, 4] rfl rfl (by decide +kernel)
    refine va_callv (va_runV (As := [.int 2]) (rest := []) ⟨hx, hb, hml, hown, hts⟩ (s11_wrong l dC dI kB kI kJ kZ kC kS s.heap.size m0 ra x0 2 tT nN sS (hX) ((iv_w ivk_2 (by decide) (by decide))) (hRr)) (cwV 1 hts gX11_readLink_X11_wrong rfl rfl rfl (by decide +kernel) ⟨Nat.le_of_ble_eq_true rfl, Nat.le_of_ble_eq_true rfl⟩) ⟨fun a U g mk q => by obtain ⟨q0, q1, qP, qE, qD⟩ := q; exact ⟨q0, q1, qP, kE_call qE, qD⟩, va_recv hK hP (ci := 11) (q0 := 0) rfl rfl, fun U hU hW => ⟨rfl, by rw [hU], by rw [hU]; exact hPc, kE_warm hW hE, hDc.weaken (fun _ _ _ _ => trivial)⟩⟩ rfl rfl hl.1 rfl (lv_room (Nat.le_of_ble_eq_true rfl)) dX11_readLink_13 ⟨Nat.le_of_ble_eq_true rfl, Nat.le_of_ble_eq_true rfl⟩) hS (fun q _ h => hFc q h) hFc (fun u t H locs ht hvm w248 hB hz1 hk1 hS => ?_)
    obtain ⟨y249, hq250, hq251, hq252, hq253, hq254, hq255, hq256, hq257, hP1, hD1⟩ := hB
    try dsimp only at w248
    obtain ⟨hPa, hDa⟩ := hJn (w1 := [(m0, .inr (11, oX11 ra y249))]) hk1 ht hP1 hD1
    clear hP hD hPc hDc hFc hJn hP1 hD1 hk1
    have hP : va_P (dC, dI) vwCl [(ra 2, .inl (kI, 8, .inl q_told)), (ra 8, .inl (kI, 40, .inl q_from)), (ra 9, .inl (kI, 40, .inl q_to)), (ra 13, .inl (kI, 700, .inl q_tape)), (m0, .inr (11, oX11 ra y249))] H := hPa
    have hD : va_D A [(ra 2, .inl (kI, 8, .inl q_told)), (ra 8, .inl (kI, 40, .inl q_from)), (ra 9, .inl (kI, 40, .inl q_to)), (ra 13, .inl (kI, 700, .inl q_tape)), (m0, .inr (11, oX11 ra y249))] := hDa
    clear hPa hDa
    refine W.widen (k := 0) (n := 0) (Nat.le_of_ble_eq_true rfl) (Nat.le_of_ble_eq_true rfl) ?_
    refine lv_aload_n hx hb dX11_readLink_16 rfl (lv_at hl 0 rfl) ?_
    refine va_get (D := (dC, dI)) (ci := 11) (v := .int (y249 8)) (C := RX11) (T := TX11) (N := 61) hx hb hts hin11 hown hK hP 4 rfl rfl 22 (Nat.le_of_ble_eq_true rfl) hw_1 (fun _ h9 => h9) rfl dX11_readLink_17 ?_
    refine lv_if_eq (tgt := 24) hx hb dX11_readLink_20 rfl (fun c9 => absurd c9 (iv_ne hq251 ivk_0 (by decide))) (fun _ => ?_)
    have hPD9 := cl_s (wc := [(m0, .inr (11, oX11 ra y249)), (ra 2, .inl (kI, 8, .inl q_told)), (ra 8, .inl (kI, 40, .inl q_from)), (ra 9, .inl (kI, 40, .inl q_to)), (ra 13, .inl (kI, 700, .inl q_tape))]) hP hD [4, 0, 1, 2, 3] rfl (by decide +kernel)
    have hP9 := hPD9.1
    have hD9 := hPD9.2
    exact W.vret hx hb hr (fun t ht hW => ⟨⟨(), rfl, trivial, y249, q_told, q_from, q_to, hq250, hq_told, hq_from, hq_to, (show (x0 2).toInt ≤ (y249 2).toInt from by omega), (show y249 3 = x0 3 from hq253), (show ∀ j : Nat, (j : Int) < (q_told 1).toInt → (q_from j).toInt < (q_to j).toInt from hLT), (show ∀ j : Nat, (j : Int) < (q_told 5).toInt → (q_from (20 + j)).toInt < (q_to (20 + j)).toInt from hLD), (show RRd tT nN y249 (lnkS tT nN sS (q_told 4) (q_told 5) (shT 20 q_from) (shT 20 q_to)) from it_t (Q := RRd tT nN y249) c1 (hq254)), (show y249 8 = 0 → q_told = upd q_told 5 (q_told 5 + 1) ∧ q_from = upd q_from ((20 + (q_told 5)).toNatClampNeg) (lnkA tT nN sS) ∧ q_to = upd q_to ((20 + (q_told 5)).toNatClampNeg) (lnkB tT nN sS (q_told 4) (q_told 5) (shT 20 q_from)) from fun w => absurd w (rr_nf hq254)), (show y249 1 = x0 1 from hq255), (show y249 10 = x0 10 from hq256), (show y249 23 = x0 23 from hq257), by rw [ht]; exact hP9, hD9⟩, hS.F ht⟩) hS.2.2 dX11_readLink_23
def rm_s11_readGoal : Room := { frames := 3, cells := 0, slots := 0, locals := 64 }
set_option maxHeartbeats 4000000 in
set_option maxRecDepth 100000 in
theorem s11_readGoal (l : Launch) (dC : Nat → ClassId) (dI : Nat → Nat → Nat) (kB kI kJ kZ kC kS : ClassId) (sz : Nat) (m0 : Nat) (ra : Nat → Nat) (x0 : Nat → Int32) (q_told : Nat → Int32) (q_from : Nat → Int32) (q_to : Nat → Int32) (q_goal : Nat → Int32) (q_tape : Nat → Int32) (tT : Nat → Int32) (nN : Int32) (sS : StT) (hX : fI lX11 hX11 x0) (hq_told : fI lTold hTold q_told) (hq_goal : fI (fun _ => 0) (fun _ => 11) q_goal) (hq_tape : fI (fun _ => 0) (fun _ => 255) q_tape) (hLT : ∀ j : Nat, (j : Int) < (q_told 1).toInt → (q_from j).toInt < (q_to j).toInt) (hLD : ∀ j : Nat, (j : Int) < (q_told 5).toInt → (q_from (20 + j)).toInt < (q_to (20 + j)).toInt) (hRr : RRd tT nN x0 sS) (hTQ : tT = q_tape) : Met l yX11_readGoal wsX11_readGoal rm_s11_readGoal (va_Pc [.ref m0] (fun U => U.heap.size = sz ∧ va_P (dC, dI) vwCl [(m0, .inr (11, oX11 ra x0)), (ra 2, .inl (kI, 8, .inl q_told)), (ra 10, .inl (kI, 6, .inl q_goal)), (ra 13, .inl (kI, 700, .inl q_tape))] U.heap ∧ kE dC dI kB kI kJ kZ kC kS U ∧ va_D (fun _ => True) [(m0, .inr (11, oX11 ra x0)), (ra 2, .inl (kI, 8, .inl q_told)), (ra 10, .inl (kI, 6, .inl q_goal)), (ra 13, .inl (kI, 700, .inl q_tape))])) (va_Qv (fun (_ : Unit) => True) (fun _ t => ∃ (x0' : Nat → Int32) (q_told' : Nat → Int32) (q_goal' : Nat → Int32), fI lX11 hX11 x0' ∧ fI lTold hTold q_told' ∧ fI (fun _ => 0) (fun _ => 11) q_goal' ∧ ((x0 2).toInt ≤ (x0' 2).toInt) ∧ (x0' 3 = x0 3) ∧ (∀ j : Nat, (j : Int) < (q_told' 1).toInt → (q_from j).toInt < (q_to j).toInt) ∧ (∀ j : Nat, (j : Int) < (q_told' 5).toInt → (q_from (20 + j)).toInt < (q_to (20 + j)).toInt) ∧ (RRd tT nN x0' (golS tT nN sS (q_told 4) (q_told 6) (shT 3 q_goal))) ∧ (x0' 8 = 0 → q_told' = upd q_told 6 (q_told 6 + 1) ∧ q_goal' = upd q_goal ((3 + (q_told 6)).toNatClampNeg) (lnkA tT nN sS)) ∧ (x0' 1 = x0 1) ∧ (x0' 10 = x0 10) ∧ (x0' 23 = x0 23) ∧ va_P (dC, dI) vwCl [(m0, .inr (11, oX11 ra x0')), (ra 2, .inl (kI, 8, .inl q_told')), (ra 10, .inl (kI, 6, .inl q_goal')), (ra 13, .inl (kI, 700, .inl q_tape))] t.heap ∧ va_D (va_A [(m0, .inr (11, oX11 ra x0)), (ra 2, .inl (kI, 8, .inl q_told)), (ra 10, .inl (kI, 6, .inl q_goal)), (ra 13, .inl (kI, 700, .inl q_tape))] sz) [(m0, .inr (11, oX11 ra x0')), (ra 2, .inl (kI, 8, .inl q_told')), (ra 10, .inl (kI, 6, .inl q_goal')), (ra 13, .inl (kI, 700, .inl q_tape))]) (va_A [(m0, .inr (11, oX11 ra x0)), (ra 2, .inl (kI, 8, .inl q_told)), (ra 10, .inl (kI, 6, .inl q_goal)), (ra 13, .inl (kI, 700, .inl q_tape))] sz)) 0 0 (va_A [(m0, .inr (11, oX11 ra x0)), (ra 2, .inl (kI, 8, .inl q_told)), (ra 10, .inl (kI, 6, .inl q_goal)), (ra 13, .inl (kI, 700, .inl q_tape))] sz) := by
  refine Met.ofW (cc := cX11_readGoal) (maxL := 3) (ret := none) (by decide) rfl ?_
  intro p e s m args0 below meth c s₁ B hml hv
  obtain ⟨hargs, hsz, hP, hE, hD0⟩ := hv
  have hx := B.exec
  have hb := B.bytes
  have hr := B.returns
  have hts := atoms_spec (ws := wsX11_readGoal) B.pre
  have hown : s.vm.findClass RX11 = some m.cls := findClass_of_methodNamed B.named
  have hlocks := B.notSynchronized
  have hK := hE.1
  have hin11 : ∀ w ∈ wsX110, w ∈ wsX11_readGoal := fun _ h9 => List.mem_cons_of_mem _ (List.mem_append_right _ h9)
  have hw_0 := hts (.fieldLink RX11 34 "PathProberModel" "told" "[I") (List.mem_of_getElem? (i := 1) rfl)
  have hw_1 := hts (.fieldLink RX11 184 "PathProberModel" "bad" "I") (List.mem_of_getElem? (i := 2) rfl)
  have hw_2 := hts (.fieldLink RX11 58 "PathProberModel" "goal" "[I") (List.mem_of_getElem? (i := 3) rfl)
  subst hsz
  have hD := hD0.self (sz := s.heap.size)
  generalize hAe : va_A [(m0, .inr (11, oX11 ra x0)), (ra 2, .inl (kI, 8, .inl q_told)), (ra 10, .inl (kI, 6, .inl q_goal)), (ra 13, .inl (kI, 700, .inl q_tape))] s.heap.size = A at hD ⊢
  have hA : ∀ q : Nat, s.heap.size ≤ q → A q := fun q h => by rw [← hAe]; exact Or.inr h
  have hS : va_S A s.heap s.heap [] := va_S.rf
  have hP : va_P (dC, dI) vwCl [(m0, .inr (11, oX11 ra x0)), (ra 2, .inl (kI, 8, .inl q_told)), (ra 10, .inl (kI, 6, .inl q_goal)), (ra 13, .inl (kI, 700, .inl q_tape))] s.heap := hP
  have hl := lv_entry ([.ref m0]) (n := 3) (Nat.le_of_ble_eq_true rfl)
  have hla : entryFrame m args0 3 = entryFrame m ([.ref m0] : List Value).toArray 3 := by rw [hargs]
  rw [hla, lg_entry_eq]
  generalize (lg_sl ([.ref m0]) ++ List.replicate (3 - (lg_sl ([.ref m0])).length) Slot.unset).toArray = ls at hl ⊢
  have hl : lv_has ls 3 [(0, .ref m0)] := hl
  have hJ35 : ∀ (n : Nat) (y35_0 : Nat → Int32) (v35_loc1 : Int32) (v35_loc2 : Int32) (H : Heap) (locs : List Loc) (ls : Array Slot), (2 - v35_loc2.toInt).toNat < n → fI lX11 hX11 y35_0 → iv 0 11 v35_loc1 → iv 0 2 v35_loc2 → iv 0 2 (q_told 6) → iv 0 0 (x0 8) → (RRd tT nN y35_0 (glK (shT 3 q_goal) v35_loc2 v35_loc1 (lnk1 tT nN sS (q_told 4)))) → (v35_loc2.toInt ≤ (q_told 6).toInt) → (okT (lnk1 tT nN sS (q_told 4)) → v35_loc1 = lnkA tT nN sS) → (¬ q_told 6 = 3) → ((x0 2).toInt ≤ (y35_0 2).toInt) → (y35_0 3 = x0 3) → (y35_0 1 = x0 1) → (y35_0 10 = x0 10) → (y35_0 23 = x0 23) → va_P (dC, dI) vwCl [(m0, .inr (11, oX11 ra y35_0)), (ra 2, .inl (kI, 8, .inl q_told)), (ra 10, .inl (kI, 6, .inl q_goal)), (ra 13, .inl (kI, 700, .inl q_tape))] H → va_D A [(m0, .inr (11, oX11 ra y35_0)), (ra 2, .inl (kI, 8, .inl q_told)), (ra 10, .inl (kI, 6, .inl q_goal)), (ra 13, .inl (kI, 700, .inl q_tape))] → va_S A s.heap H locs → lv_has ls 3 [(0, .ref m0), (1, .int v35_loc1), (2, .int v35_loc2)] → W p l e (headSpec wsX11_readGoal rm_s11_readGoal).room s m args0 below meth c H locs (0) (0) (MQ below (va_Qv (fun (_ : Unit) => True) (fun _ t => ∃ (x0' : Nat → Int32) (q_told' : Nat → Int32) (q_goal' : Nat → Int32), fI lX11 hX11 x0' ∧ fI lTold hTold q_told' ∧ fI (fun _ => 0) (fun _ => 11) q_goal' ∧ ((x0 2).toInt ≤ (x0' 2).toInt) ∧ (x0' 3 = x0 3) ∧ (∀ j : Nat, (j : Int) < (q_told' 1).toInt → (q_from j).toInt < (q_to j).toInt) ∧ (∀ j : Nat, (j : Int) < (q_told' 5).toInt → (q_from (20 + j)).toInt < (q_to (20 + j)).toInt) ∧ (RRd tT nN x0' (golS tT nN sS (q_told 4) (q_told 6) (shT 3 q_goal))) ∧ (x0' 8 = 0 → q_told' = upd q_told 6 (q_told 6 + 1) ∧ q_goal' = upd q_goal ((3 + (q_told 6)).toNatClampNeg) (lnkA tT nN sS)) ∧ (x0' 1 = x0 1) ∧ (x0' 10 = x0 10) ∧ (x0' 23 = x0 23) ∧ va_P (dC, dI) vwCl [(m0, .inr (11, oX11 ra x0')), (ra 2, .inl (kI, 8, .inl q_told')), (ra 10, .inl (kI, 6, .inl q_goal')), (ra 13, .inl (kI, 700, .inl q_tape))] t.heap ∧ va_D A [(m0, .inr (11, oX11 ra x0')), (ra 2, .inl (kI, 8, .inl q_told')), (ra 10, .inl (kI, 6, .inl q_goal')), (ra 13, .inl (kI, 700, .inl q_tape))]) A) args0 s 0 0 A) (F0 m 35 ls []) := by
    intro n
    induction n with
    | zero => intro y35_0 v35_loc1 v35_loc2 H locs ls hm35; exact absurd hm35 (Nat.not_lt_zero _)
    | succ n ih35 =>
      intro y35_0 v35_loc1 v35_loc2 H locs ls hm35 hI35_0 h35_2 h35_3 h35_4 h35_5 hgo_35 hgi_35 hgv_35 hg3_35 hat_35 hts_35 htp_35 hfp_35 hhm_35 hP hD hS hl
      refine lv_iload_n hx hb dX11_readGoal_35 rfl (lv_at hl 2 rfl) ?_
      refine lv_aload_n hx hb dX11_readGoal_36 rfl (lv_at hl 0 rfl) ?_
      refine va_get (D := (dC, dI)) (ci := 11) (v := .ref (ra 2)) (C := RX11) (T := TX11) (N := 61) hx hb hts hin11 hown hK hP 0 rfl rfl 3 (Nat.le_of_ble_eq_true rfl) hw_0 (fun _ h9 => h9) rfl dX11_readGoal_37 ?_
      refine lv_bipush (v := 6) hx hb dX11_readGoal_40 bp_6 ?_
      refine va_iald hx hb hK hP 1 1 rfl rfl (vp_in_nI (n := 6) (by decide) (by decide)) dX11_readGoal_42 ?_
      refine W.eq (g2 := F0 m 43 ls [.int (q_told 6), .int v35_loc2]) rfl ?_
      refine lv_icmp_ge (tgt := 76) hx hb dX11_readGoal_43 rfl (fun c1 => ?_) (fun c1 => ?_)
      · have hrr2 : RRd tT nN y35_0 (iteT (gotT (shT 3 q_goal) (q_told 6) (lnkA tT nN sS)) (failT 4 (lnk1 tT nN sS (q_told 4))) (lnk1 tT nN sS (q_told 4))) := (gl_e (Int32.toInt_inj.mp (Int.le_antisymm hgi_35 (Int32.le_iff_toInt_le.mp c1))) hgv_35) ▸ hgo_35
        refine lv_aload_n hx hb dX11_readGoal_76 rfl (lv_at hl 0 rfl) ?_
        refine va_get (D := (dC, dI)) (ci := 11) (v := .int (y35_0 8)) (C := RX11) (T := TX11) (N := 61) hx hb hts hin11 hown hK hP 0 rfl rfl 22 (Nat.le_of_ble_eq_true rfl) hw_1 (fun _ h9 => h9) rfl dX11_readGoal_77 ?_
        refine lv_if_eq (tgt := 84) hx hb dX11_readGoal_80 rfl (fun c3 => ?_) (fun c3 => ?_)
        · have b4 : iv 0 0 (y35_0 8) := iv_eqL c3 ivk_0
          refine lv_aload_n hx hb dX11_readGoal_84 rfl (lv_at hl 0 rfl) ?_
          obtain ⟨hPc, hDc, hFc, hJn⟩ := cl_a (wc := [(m0, .inr (11, oX11 ra y35_0)), (ra 13, .inl (kI, 700, .inl q_tape))]) (wr := [(ra 2, .inl (kI, 8, .inl q_told)), (ra 10, .inl (kI, 6, .inl q_goal))]) hP hD hS hA [0, 3] [1, 2] rfl rfl (by decide +kernel)
          refine va_callv (va_runV (As := []) (rest := []) ⟨hx, hb, hml, hown, hts⟩ (s11_stepOn l dC dI kB kI kJ kZ kC kS H.size m0 ra y35_0 q_tape tT nN (nextT tT nN (iteT (gotT (shT 3 q_goal) (q_told 6) (lnkA tT nN sS)) (failT 4 (lnk1 tT nN sS (q_told 4))) (lnk1 tT nN sS (q_told 4)))) (hI35_0) (hq_tape) (hrr2.2) (stp_of hrr2) (hTQ)) (cwV 0 hts gX11_readGoal_X11_stepOn rfl rfl rfl (by decide +kernel) ⟨Nat.le_of_ble_eq_true rfl, Nat.le_of_ble_eq_true rfl⟩) ⟨fun a U g mk q => by obtain ⟨q0, q1, qP, qE, qD⟩ := q; exact ⟨q0, q1, qP, kE_call qE, qD⟩, va_recv hK hP (ci := 11) (q0 := 0) rfl rfl, fun U hU hW => ⟨rfl, by rw [hU], by rw [hU]; exact hPc, kE_warm hW hE, hDc.weaken (fun _ _ _ _ => trivial)⟩⟩ rfl rfl hl.1 rfl (lv_room (Nat.le_of_ble_eq_true rfl)) dX11_readGoal_85 ⟨Nat.le_of_ble_eq_true rfl, Nat.le_of_ble_eq_true rfl⟩) hS (fun q _ h => hFc q h) hFc (fun u t H locs ht hvm w6 hB hz1 hk1 hS => ?_)
          obtain ⟨y7, hq8, hq9, hq10, hq11, hq12, hq13, hq14, hq15, hP1, hD1⟩ := hB
          try dsimp only at w6
          obtain ⟨hPa, hDa⟩ := hJn (w1 := [(m0, .inr (11, oX11 ra y7)), (ra 13, .inl (kI, 700, .inl q_tape))]) hk1 ht hP1 hD1
          clear hP hD hPc hDc hFc hJn hP1 hD1 hk1
          have hP : va_P (dC, dI) vwCl [(ra 2, .inl (kI, 8, .inl q_told)), (ra 10, .inl (kI, 6, .inl q_goal)), (m0, .inr (11, oX11 ra y7)), (ra 13, .inl (kI, 700, .inl q_tape))] H := hPa
          have hD : va_D A [(ra 2, .inl (kI, 8, .inl q_told)), (ra 10, .inl (kI, 6, .inl q_goal)), (m0, .inr (11, oX11 ra y7)), (ra 13, .inl (kI, 700, .inl q_tape))] := hDa
          clear hPa hDa
          refine W.widen (k := 0) (n := 0) (Nat.le_of_ble_eq_true rfl) (Nat.le_of_ble_eq_true rfl) ?_
          refine lv_aload_n hx hb dX11_readGoal_88 rfl (lv_at hl 0 rfl) ?_
          refine va_get (D := (dC, dI)) (ci := 11) (v := .ref (ra 10)) (C := RX11) (T := TX11) (N := 61) hx hb hts hin11 hown hK hP 2 rfl rfl 11 (Nat.le_of_ble_eq_true rfl) hw_2 (fun _ h9 => h9) rfl dX11_readGoal_89 ?_
          refine lv_iconst (v := 3) hx hb dX11_readGoal_92 ic_3 ?_
          refine lv_aload_n hx hb dX11_readGoal_93 rfl (lv_at hl 0 rfl) ?_
          refine va_get (D := (dC, dI)) (ci := 11) (v := .ref (ra 2)) (C := RX11) (T := TX11) (N := 61) hx hb hts hin11 hown hK hP 2 rfl rfl 3 (Nat.le_of_ble_eq_true rfl) hw_0 (fun _ h9 => h9) rfl dX11_readGoal_94 ?_
          refine lv_bipush (v := 6) hx hb dX11_readGoal_97 bp_6 ?_
          refine va_iald hx hb hK hP 0 1 rfl rfl (vp_in_nI (n := 6) (by decide) (by decide)) dX11_readGoal_99 ?_
          refine W.eq (g2 := F0 m 100 ls [.int (q_told 6), .int 3, .ref (ra 10)]) rfl ?_
          refine lv_iadd hx hb dX11_readGoal_100 ?_
          have b16 : iv 3 5 (3 + (q_told 6)) := iv_add ivk_3 h35_4 (by decide) (by decide) (by decide) (by decide)
          refine lv_iload_n hx hb dX11_readGoal_101 rfl (lv_at hl 1 rfl) ?_
          refine va_iast hx hb hK hP hD hS 1 1 rfl rfl (iv_in b16 (by decide) (by decide)) dX11_readGoal_102 (fun H locs hPa hDa hS => ?_)
          clear hP hD
          have hP : va_P (dC, dI) vwCl [(ra 2, .inl (kI, 8, .inl q_told)), (ra 10, .inl (kI, 6, .inl (upd q_goal (3 + (q_told 6)).toNatClampNeg v35_loc1))), (m0, .inr (11, oX11 ra y7)), (ra 13, .inl (kI, 700, .inl q_tape))] H := hPa
          have hD : va_D A [(ra 2, .inl (kI, 8, .inl q_told)), (ra 10, .inl (kI, 6, .inl (upd q_goal (3 + (q_told 6)).toNatClampNeg v35_loc1))), (m0, .inr (11, oX11 ra y7)), (ra 13, .inl (kI, 700, .inl q_tape))] := hDa
          clear hPa hDa
          refine lv_aload_n hx hb dX11_readGoal_103 rfl (lv_at hl 0 rfl) ?_
          refine va_get (D := (dC, dI)) (ci := 11) (v := .ref (ra 2)) (C := RX11) (T := TX11) (N := 61) hx hb hts hin11 hown hK hP 2 rfl rfl 3 (Nat.le_of_ble_eq_true rfl) hw_0 (fun _ h9 => h9) rfl dX11_readGoal_104 ?_
          refine lv_bipush (v := 6) hx hb dX11_readGoal_107 bp_6 ?_
          refine lv_dup2_11 hx hb dX11_readGoal_109 rfl rfl ?_
          refine va_iald hx hb hK hP 0 1 rfl rfl (vp_in_nI (n := 6) (by decide) (by decide)) dX11_readGoal_110 ?_
          refine W.eq (g2 := F0 m 111 ls [.int (q_told 6), .int 6, .ref (ra 2)]) rfl ?_
          refine lv_iconst (v := 1) hx hb dX11_readGoal_111 ic_1 ?_
          refine lv_iadd hx hb dX11_readGoal_112 ?_
          have b17 : iv 1 3 ((q_told 6) + 1) := iv_add h35_4 ivk_1 (by decide) (by decide) (by decide) (by decide)
          refine va_iast hx hb hK hP hD hS 0 1 rfl rfl (vp_in_nI (n := 6) (by decide) (by decide)) dX11_readGoal_113 (fun H locs hPa hDa hS => ?_)
          clear hP hD
          have hP : va_P (dC, dI) vwCl [(ra 2, .inl (kI, 8, .inl (upd q_told 6 ((q_told 6) + 1)))), (ra 10, .inl (kI, 6, .inl (upd q_goal (3 + (q_told 6)).toNatClampNeg v35_loc1))), (m0, .inr (11, oX11 ra y7)), (ra 13, .inl (kI, 700, .inl q_tape))] H := hPa
          have hD : va_D A [(ra 2, .inl (kI, 8, .inl (upd q_told 6 ((q_told 6) + 1)))), (ra 10, .inl (kI, 6, .inl (upd q_goal (3 + (q_told 6)).toNatClampNeg v35_loc1))), (m0, .inr (11, oX11 ra y7)), (ra 13, .inl (kI, 700, .inl q_tape))] := hDa
          clear hPa hDa
          have hPD9 := cl_s (wc := [(m0, .inr (11, oX11 ra y7)), (ra 2, .inl (kI, 8, .inl (upd q_told 6 ((q_told 6) + 1)))), (ra 10, .inl (kI, 6, .inl (upd q_goal (3 + (q_told 6)).toNatClampNeg v35_loc1))), (ra 13, .inl (kI, 700, .inl q_tape))]) hP hD [2, 0, 1, 3] rfl (by decide +kernel)
          have hP9 := hPD9.1
          have hD9 := hPD9.2
          exact W.vret hx hb hr (fun t ht hW => ⟨⟨(), rfl, trivial, y7, upd q_told 6 ((q_told 6) + 1), upd q_goal (3 + (q_told 6)).toNatClampNeg v35_loc1, hq8, (fI_u hq_told (k := 6) ((iv_w b17 (by decide) (by decide)))), (fI_u hq_goal (k := (3 + (q_told 6)).toNatClampNeg) (h35_2)), (show (x0 2).toInt ≤ (y7 2).toInt from by omega), (show y7 3 = x0 3 from hq10.trans (hts_35)), (show ∀ j : Nat, (j : Int) < (q_told 1).toInt → (q_from j).toInt < (q_to j).toInt from hLT), (show ∀ j : Nat, (j : Int) < (q_told 5).toInt → (q_from (20 + j)).toInt < (q_to (20 + j)).toInt from hLD), (show RRd tT nN y7 (golS tT nN sS (q_told 4) (q_told 6) (shT 3 q_goal)) from it_f (Q := RRd tT nN y7) hg3_35 (hq12)), fun _ => ⟨rfl, congrArg (upd q_goal ((3 + (q_told 6)).toNatClampNeg)) (hgv_35 (ok_ite (rr_ok hrr2 c3)).1)⟩, (show y7 1 = x0 1 from hq13.trans (htp_35)), (show y7 10 = x0 10 from hq14.trans (hfp_35)), (show y7 23 = x0 23 from hq15.trans (hhm_35)), by rw [ht]; exact hP9, hD9⟩, hS.F ht⟩) hS.2.2 dX11_readGoal_114
        · have b18 : iv 1 5 (y35_0 8) := iv_neLo c3 (hI35_0 8 : iv 0 5 (y35_0 8)) ivk_0 (by decide) (by decide)
          have hP9 := hP
          have hD9 := hD
          exact W.vret hx hb hr (fun t ht hW => ⟨⟨(), rfl, trivial, y35_0, q_told, q_goal, hI35_0, hq_told, hq_goal, (show (x0 2).toInt ≤ (y35_0 2).toInt from by omega), (show y35_0 3 = x0 3 from hts_35), (show ∀ j : Nat, (j : Int) < (q_told 1).toInt → (q_from j).toInt < (q_to j).toInt from hLT), (show ∀ j : Nat, (j : Int) < (q_told 5).toInt → (q_from (20 + j)).toInt < (q_to (20 + j)).toInt from hLD), (show RRd tT nN y35_0 (golS tT nN sS (q_told 4) (q_told 6) (shT 3 q_goal)) from it_f (Q := RRd tT nN y35_0) hg3_35 ((rr_stepN hrr2 c3))), (show y35_0 8 = 0 → q_told = upd q_told 6 (q_told 6 + 1) ∧ q_goal = upd q_goal ((3 + (q_told 6)).toNatClampNeg) (lnkA tT nN sS) from fun w => absurd w c3), (show y35_0 1 = x0 1 from htp_35), (show y35_0 10 = x0 10 from hfp_35), (show y35_0 23 = x0 23 from hhm_35), by rw [ht]; exact hP9, hD9⟩, hS.F ht⟩) hS.2.2 dX11_readGoal_83
      · have b19 : iv 0 1 v35_loc2 := iv_ltL (Int32.not_le.mp c1) h35_3 h35_4 (by decide) (by decide)
        have b20 : iv 1 2 (q_told 6) := iv_ltR (Int32.not_le.mp c1) h35_3 h35_4 (by decide) (by decide)
        refine lv_aload_n hx hb dX11_readGoal_46 rfl (lv_at hl 0 rfl) ?_
        refine va_get (D := (dC, dI)) (ci := 11) (v := .int (y35_0 8)) (C := RX11) (T := TX11) (N := 61) hx hb hts hin11 hown hK hP 0 rfl rfl 22 (Nat.le_of_ble_eq_true rfl) hw_1 (fun _ h9 => h9) rfl dX11_readGoal_47 ?_
        refine lv_if_ne (tgt := 70) hx hb dX11_readGoal_50 rfl (fun c21 => ?_) (fun c21 => ?_)
        · have b22 : iv 1 5 (y35_0 8) := iv_neLo c21 (hI35_0 8 : iv 0 5 (y35_0 8)) ivk_0 (by decide) (by decide)
          refine lv_iinc (v := v35_loc2 + Int32.ofInt 1) (lv' := [(2, .int (v35_loc2 + Int32.ofInt 1)), (0, .ref m0), (1, .int v35_loc1)]) hx hb dX11_readGoal_70 hl (k := 2) rfl (rfl) (Nat.le_of_ble_eq_true rfl) rfl (fun ls hl => ?_)
          have b23 : iv 1 2 (v35_loc2 + Int32.ofInt 1) := iv_add b19 ivo_1 (by decide) (by decide) (by decide) (by decide)
          refine lv_goto (tgt := 35) hx hb dX11_readGoal_73 rfl ?_
          exact ih35 y35_0 v35_loc1 (v35_loc2 + Int32.ofInt 1) _ _ _ (ms_up (c := 1) (d := 0) b19 hm35 (by decide) (iv_inc 1 b19 (by decide) (by decide) (by decide) (by decide)) (by decide) rfl) (hI35_0) (h35_2) ((iv_w b23 (by decide) (by decide))) ((iv_w b20 (by decide) (by decide))) (h35_5) ((show RRd tT nN y35_0 (glK (shT 3 q_goal) (v35_loc2 + Int32.ofInt 1) v35_loc1 (lnk1 tT nN sS (q_told 4))) from (gl_b hgo_35 c21 (iv_w b19 (by decide) (by decide))) ▸ hgo_35)) ((show (v35_loc2 + Int32.ofInt 1).toInt ≤ (q_told 6).toInt from by have q := Int32.lt_iff_toInt_lt.mp (Int32.not_le.mp c1); rw [iv_inc 1 b19 (by decide) (by decide) (by decide) (by decide)]; omega)) ((show okT (lnk1 tT nN sS (q_told 4)) → v35_loc1 = lnkA tT nN sS from hgv_35)) ((show ¬ q_told 6 = 3 from hg3_35)) ((show (x0 2).toInt ≤ (y35_0 2).toInt from by omega)) ((show y35_0 3 = x0 3 from hts_35)) ((show y35_0 1 = x0 1 from htp_35)) ((show y35_0 10 = x0 10 from hfp_35)) ((show y35_0 23 = x0 23 from hhm_35)) (hP) (hD) hS (lv_sub hl [1, 2, 0] rfl)
        · have b24 : iv 0 0 (y35_0 8) := iv_eqL c21 ivk_0
          refine lv_aload_n hx hb dX11_readGoal_53 rfl (lv_at hl 0 rfl) ?_
          refine va_get (D := (dC, dI)) (ci := 11) (v := .ref (ra 10)) (C := RX11) (T := TX11) (N := 61) hx hb hts hin11 hown hK hP 0 rfl rfl 11 (Nat.le_of_ble_eq_true rfl) hw_2 (fun _ h9 => h9) rfl dX11_readGoal_54 ?_
          refine lv_iconst (v := 3) hx hb dX11_readGoal_57 ic_3 ?_
          refine lv_iload_n hx hb dX11_readGoal_58 rfl (lv_at hl 2 rfl) ?_
          refine lv_iadd hx hb dX11_readGoal_59 ?_
          have b25 : iv 3 4 (3 + v35_loc2) := iv_add ivk_3 b19 (by decide) (by decide) (by decide) (by decide)
          refine va_iald hx hb hK hP 2 1 rfl rfl (iv_in b25 (by decide) (by decide)) dX11_readGoal_60 ?_
          have b26 : iv 0 11 (q_goal (3 + v35_loc2).toNatClampNeg) := hq_goal _
          refine lv_iload_n hx hb dX11_readGoal_61 rfl (lv_at hl 1 rfl) ?_
          refine lv_icmp_ne (tgt := 70) hx hb dX11_readGoal_62 rfl (fun c27 => ?_) (fun c27 => ?_)
          · refine lv_iinc (v := v35_loc2 + Int32.ofInt 1) (lv' := [(2, .int (v35_loc2 + Int32.ofInt 1)), (0, .ref m0), (1, .int v35_loc1)]) hx hb dX11_readGoal_70 hl (k := 2) rfl (rfl) (Nat.le_of_ble_eq_true rfl) rfl (fun ls hl => ?_)
            have b28 : iv 1 2 (v35_loc2 + Int32.ofInt 1) := iv_add b19 ivo_1 (by decide) (by decide) (by decide) (by decide)
            refine lv_goto (tgt := 35) hx hb dX11_readGoal_73 rfl ?_
            exact ih35 y35_0 v35_loc1 (v35_loc2 + Int32.ofInt 1) _ _ _ (ms_up (c := 1) (d := 0) b19 hm35 (by decide) (iv_inc 1 b19 (by decide) (by decide) (by decide) (by decide)) (by decide) rfl) (hI35_0) (h35_2) ((iv_w b28 (by decide) (by decide))) ((iv_w b20 (by decide) (by decide))) (h35_5) ((show RRd tT nN y35_0 (glK (shT 3 q_goal) (v35_loc2 + Int32.ofInt 1) v35_loc1 (lnk1 tT nN sS (q_told 4))) from (gl_n (f := (shT 3 q_goal)) hgo_35 c21 (iv_w b19 (by decide) (by decide)) (sh3 (f := q_goal) (iv_w b19 (by decide) (by decide)) ▸ c27)) ▸ hgo_35)) ((show (v35_loc2 + Int32.ofInt 1).toInt ≤ (q_told 6).toInt from by have q := Int32.lt_iff_toInt_lt.mp (Int32.not_le.mp c1); rw [iv_inc 1 b19 (by decide) (by decide) (by decide) (by decide)]; omega)) ((show okT (lnk1 tT nN sS (q_told 4)) → v35_loc1 = lnkA tT nN sS from hgv_35)) ((show ¬ q_told 6 = 3 from hg3_35)) ((show (x0 2).toInt ≤ (y35_0 2).toInt from by omega)) ((show y35_0 3 = x0 3 from hts_35)) ((show y35_0 1 = x0 1 from htp_35)) ((show y35_0 10 = x0 10 from hfp_35)) ((show y35_0 23 = x0 23 from hhm_35)) (hP) (hD) hS (lv_sub hl [1, 2, 0] rfl)
          · refine lv_aload_n hx hb dX11_readGoal_65 rfl (lv_at hl 0 rfl) ?_
            refine lv_iconst (v := 4) hx hb dX11_readGoal_66 ic_4 ?_
            obtain ⟨hPc, hDc, hFc, hJn⟩ := cl_a (wc := [(m0, .inr (11, oX11 ra y35_0))]) (wr := [(ra 2, .inl (kI, 8, .inl q_told)), (ra 10, .inl (kI, 6, .inl q_goal)), (ra 13, .inl (kI, 700, .inl q_tape))]) hP hD hS hA [0] [1, 2, 3] rfl rfl (by decide +kernel)
            refine va_callv (va_runV (As := [.int 4]) (rest := []) ⟨hx, hb, hml, hown, hts⟩ (s11_wrong l dC dI kB kI kJ kZ kC kS H.size m0 ra y35_0 4 tT nN (glK (shT 3 q_goal) v35_loc2 v35_loc1 (lnk1 tT nN sS (q_told 4))) (hI35_0) ((iv_w ivk_4 (by decide) (by decide))) (hgo_35)) (cwV 1 hts gX11_readGoal_X11_wrong rfl rfl rfl (by decide +kernel) ⟨Nat.le_of_ble_eq_true rfl, Nat.le_of_ble_eq_true rfl⟩) ⟨fun a U g mk q => by obtain ⟨q0, q1, qP, qE, qD⟩ := q; exact ⟨q0, q1, qP, kE_call qE, qD⟩, va_recv hK hP (ci := 11) (q0 := 0) rfl rfl, fun U hU hW => ⟨rfl, by rw [hU], by rw [hU]; exact hPc, kE_warm hW hE, hDc.weaken (fun _ _ _ _ => trivial)⟩⟩ rfl rfl hl.1 rfl (lv_room (Nat.le_of_ble_eq_true rfl)) dX11_readGoal_67 ⟨Nat.le_of_ble_eq_true rfl, Nat.le_of_ble_eq_true rfl⟩) hS (fun q _ h => hFc q h) hFc (fun u t H locs ht hvm w30 hB hz1 hk1 hS => ?_)
            obtain ⟨y31, hq32, hq33, hq34, hq35, hq36, hq37, hq38, hq39, hP1, hD1⟩ := hB
            try dsimp only at w30
            obtain ⟨hPa, hDa⟩ := hJn (w1 := [(m0, .inr (11, oX11 ra y31))]) hk1 ht hP1 hD1
            clear hP hD hPc hDc hFc hJn hP1 hD1 hk1
            have hP : va_P (dC, dI) vwCl [(ra 2, .inl (kI, 8, .inl q_told)), (ra 10, .inl (kI, 6, .inl q_goal)), (ra 13, .inl (kI, 700, .inl q_tape)), (m0, .inr (11, oX11 ra y31))] H := hPa
            have hD : va_D A [(ra 2, .inl (kI, 8, .inl q_told)), (ra 10, .inl (kI, 6, .inl q_goal)), (ra 13, .inl (kI, 700, .inl q_tape)), (m0, .inr (11, oX11 ra y31))] := hDa
            clear hPa hDa
            refine W.widen (k := 0) (n := 0) (Nat.le_of_ble_eq_true rfl) (Nat.le_of_ble_eq_true rfl) ?_
            refine lv_iinc (v := v35_loc2 + Int32.ofInt 1) (lv' := [(2, .int (v35_loc2 + Int32.ofInt 1)), (0, .ref m0), (1, .int v35_loc1)]) hx hb dX11_readGoal_70 hl (k := 2) rfl (rfl) (Nat.le_of_ble_eq_true rfl) rfl (fun ls hl => ?_)
            have b40 : iv 1 2 (v35_loc2 + Int32.ofInt 1) := iv_add b19 ivo_1 (by decide) (by decide) (by decide) (by decide)
            refine lv_goto (tgt := 35) hx hb dX11_readGoal_73 rfl ?_
            have hPD9 := cl_s (wc := [(m0, .inr (11, oX11 ra y31)), (ra 2, .inl (kI, 8, .inl q_told)), (ra 10, .inl (kI, 6, .inl q_goal)), (ra 13, .inl (kI, 700, .inl q_tape))]) hP hD [3, 0, 1, 2] rfl (by decide +kernel)
            exact ih35 y31 v35_loc1 (v35_loc2 + Int32.ofInt 1) _ _ _ (ms_up (c := 1) (d := 0) b19 hm35 (by decide) (iv_inc 1 b19 (by decide) (by decide) (by decide) (by decide)) (by decide) rfl) (hq32) (h35_2) ((iv_w b40 (by decide) (by decide))) ((iv_w b20 (by decide) (by decide))) (h35_5) ((show RRd tT nN y31 (glK (shT 3 q_goal) (v35_loc2 + Int32.ofInt 1) v35_loc1 (lnk1 tT nN sS (q_told 4))) from (gl_y (f := (shT 3 q_goal)) hgo_35 c21 (iv_w b19 (by decide) (by decide)) (sh3 (f := q_goal) (iv_w b19 (by decide) (by decide)) ▸ c27)) ▸ hq36)) ((show (v35_loc2 + Int32.ofInt 1).toInt ≤ (q_told 6).toInt from by have q := Int32.lt_iff_toInt_lt.mp (Int32.not_le.mp c1); rw [iv_inc 1 b19 (by decide) (by decide) (by decide) (by decide)]; omega)) ((show okT (lnk1 tT nN sS (q_told 4)) → v35_loc1 = lnkA tT nN sS from hgv_35)) ((show ¬ q_told 6 = 3 from hg3_35)) ((show (x0 2).toInt ≤ (y31 2).toInt from by omega)) ((show y31 3 = x0 3 from hq35.trans (hts_35))) ((show y31 1 = x0 1 from hq37.trans (htp_35))) ((show y31 10 = x0 10 from hq38.trans (hfp_35))) ((show y31 23 = x0 23 from hq39.trans (hhm_35))) (hPD9.1) (hPD9.2) hS (lv_sub hl [1, 2, 0] rfl)
  refine lv_aload_n hx hb dX11_readGoal_0 rfl (lv_at hl 0 rfl) ?_
  refine va_get (D := (dC, dI)) (ci := 11) (v := .ref (ra 2)) (C := RX11) (T := TX11) (N := 61) hx hb hts hin11 hown hK hP 0 rfl rfl 3 (Nat.le_of_ble_eq_true rfl) hw_0 (fun _ h9 => h9) rfl dX11_readGoal_1 ?_
  refine lv_bipush (v := 6) hx hb dX11_readGoal_4 bp_6 ?_
  refine va_iald hx hb hK hP 1 1 rfl rfl (vp_in_nI (n := 6) (by decide) (by decide)) dX11_readGoal_6 ?_
  refine W.eq (g2 := F0 m 7 ls [.int (q_told 6)]) rfl ?_
  refine lv_iconst (v := 3) hx hb dX11_readGoal_7 ic_3 ?_
  refine lv_icmp_ne (tgt := 16) hx hb dX11_readGoal_8 rfl (fun c41 => ?_) (fun c41 => ?_)
  · have b42 : iv 0 2 (q_told 6) := iv_neHi c41 (hq_told 6 : iv 0 3 (q_told 6)) ivk_3 (by decide) (by decide)
    refine lv_aload_n hx hb dX11_readGoal_16 rfl (lv_at hl 0 rfl) ?_
    refine va_get (D := (dC, dI)) (ci := 11) (v := .int (x0 8)) (C := RX11) (T := TX11) (N := 61) hx hb hts hin11 hown hK hP 0 rfl rfl 22 (Nat.le_of_ble_eq_true rfl) hw_1 (fun _ h9 => h9) rfl dX11_readGoal_17 ?_
    refine lv_if_eq (tgt := 24) hx hb dX11_readGoal_20 rfl (fun c43 => ?_) (fun c43 => ?_)
    · have b44 : iv 0 0 (x0 8) := iv_eqL c43 ivk_0
      refine lv_aload_n hx hb dX11_readGoal_24 rfl (lv_at hl 0 rfl) ?_
      obtain ⟨hPc, hDc, hFc, hJn⟩ := cl_a (wc := [(m0, .inr (11, oX11 ra x0)), (ra 13, .inl (kI, 700, .inl q_tape))]) (wr := [(ra 2, .inl (kI, 8, .inl q_told)), (ra 10, .inl (kI, 6, .inl q_goal))]) hP hD hS hA [0, 3] [1, 2] rfl rfl (by decide +kernel)
      refine va_callv (va_runV (As := []) (rest := []) ⟨hx, hb, hml, hown, hts⟩ (s11_stepOn l dC dI kB kI kJ kZ kC kS s.heap.size m0 ra x0 q_tape tT nN (nextT tT nN sS) (hX) (hq_tape) (hRr.2) (stp_of hRr) (hTQ)) (cwV 0 hts gX11_readGoal_X11_stepOn rfl rfl rfl (by decide +kernel) ⟨Nat.le_of_ble_eq_true rfl, Nat.le_of_ble_eq_true rfl⟩) ⟨fun a U g mk q => by obtain ⟨q0, q1, qP, qE, qD⟩ := q; exact ⟨q0, q1, qP, kE_call qE, qD⟩, va_recv hK hP (ci := 11) (q0 := 0) rfl rfl, fun U hU hW => ⟨rfl, by rw [hU], by rw [hU]; exact hPc, kE_warm hW hE, hDc.weaken (fun _ _ _ _ => trivial)⟩⟩ rfl rfl hl.1 rfl (lv_room (Nat.le_of_ble_eq_true rfl)) dX11_readGoal_25 ⟨Nat.le_of_ble_eq_true rfl, Nat.le_of_ble_eq_true rfl⟩) hS (fun q _ h => hFc q h) hFc (fun u t H locs ht hvm w46 hB hz1 hk1 hS => ?_)
      obtain ⟨y47, hq48, hq49, hq50, hq51, hq52, hq53, hq54, hq55, hP1, hD1⟩ := hB
      try dsimp only at w46
      obtain ⟨hPa, hDa⟩ := hJn (w1 := [(m0, .inr (11, oX11 ra y47)), (ra 13, .inl (kI, 700, .inl q_tape))]) hk1 ht hP1 hD1
      clear hP hD hPc hDc hFc hJn hP1 hD1 hk1
      have hP : va_P (dC, dI) vwCl [(ra 2, .inl (kI, 8, .inl q_told)), (ra 10, .inl (kI, 6, .inl q_goal)), (m0, .inr (11, oX11 ra y47)), (ra 13, .inl (kI, 700, .inl q_tape))] H := hPa
      have hD : va_D A [(ra 2, .inl (kI, 8, .inl q_told)), (ra 10, .inl (kI, 6, .inl q_goal)), (m0, .inr (11, oX11 ra y47)), (ra 13, .inl (kI, 700, .inl q_tape))] := hDa
      clear hPa hDa
      refine W.widen (k := 0) (n := 0) (Nat.le_of_ble_eq_true rfl) (Nat.le_of_ble_eq_true rfl) ?_
      refine lv_aload_n hx hb dX11_readGoal_28 rfl (lv_at hl 0 rfl) ?_
      obtain ⟨hPc, hDc, hFc, hJn⟩ := cl_a (wc := [(m0, .inr (11, oX11 ra y47)), (ra 2, .inl (kI, 8, .inl q_told))]) (wr := [(ra 10, .inl (kI, 6, .inl q_goal)), (ra 13, .inl (kI, 700, .inl q_tape))]) hP hD hS hA [2, 0] [1, 3] rfl rfl (by decide +kernel)
      refine va_calli (va_runV (As := []) (rest := []) ⟨hx, hb, hml, hown, hts⟩ (s11_routerNow l dC dI kB kI kJ kZ kC kS H.size m0 ra y47 q_told tT nN (nextT tT nN sS) (hq48) (hq_told) (hq52)) (cwV 0 hts gX11_readGoal_X11_routerNow rfl rfl rfl (by decide +kernel) ⟨Nat.le_of_ble_eq_true rfl, Nat.le_of_ble_eq_true rfl⟩) ⟨fun a U g mk q => by obtain ⟨q0, q1, qP, qE, qD⟩ := q; exact ⟨q0, q1, qP, kE_call qE, qD⟩, va_recv hK hP (ci := 11) (q0 := 2) rfl rfl, fun U hU hW => ⟨rfl, by rw [hU], by rw [hU]; exact hPc, kE_warm hW hE, hDc.weaken (fun _ _ _ _ => trivial)⟩⟩ rfl rfl hl.1 rfl (lv_room (Nat.le_of_ble_eq_true rfl)) dX11_readGoal_29 ⟨Nat.le_of_ble_eq_true rfl, Nat.le_of_ble_eq_true rfl⟩) hS (fun q _ h => hFc q h) hFc (fun r56 u t H locs ht hvm w57 hB hz1 hk1 hS => ?_)
      obtain ⟨y58, hq59, hq60, hq61, hq62, hq63, hq64, hq65, hP1, hD1⟩ := hB
      try dsimp only at w57
      obtain ⟨hPa, hDa⟩ := hJn (w1 := [(m0, .inr (11, oX11 ra y58)), (ra 2, .inl (kI, 8, .inl q_told))]) hk1 ht hP1 hD1
      clear hP hD hPc hDc hFc hJn hP1 hD1 hk1
      have hP : va_P (dC, dI) vwCl [(ra 10, .inl (kI, 6, .inl q_goal)), (ra 13, .inl (kI, 700, .inl q_tape)), (m0, .inr (11, oX11 ra y58)), (ra 2, .inl (kI, 8, .inl q_told))] H := hPa
      have hD : va_D A [(ra 10, .inl (kI, 6, .inl q_goal)), (ra 13, .inl (kI, 700, .inl q_tape)), (m0, .inr (11, oX11 ra y58)), (ra 2, .inl (kI, 8, .inl q_told))] := hDa
      clear hPa hDa
      refine W.widen (k := 0) (n := 0) (Nat.le_of_ble_eq_true rfl) (Nat.le_of_ble_eq_true rfl) ?_
      have hv9 := w57.2
      refine lv_istore_n (lv' := [(1, .int r56), (0, .ref m0)]) hx hb dX11_readGoal_32 rfl hl (Nat.le_of_ble_eq_true rfl) rfl (fun ls hl => ?_)
      refine lv_iconst (v := 0) hx hb dX11_readGoal_33 ic_0 ?_
      refine lv_istore_n (lv' := [(2, .int 0), (1, .int r56), (0, .ref m0)]) hx hb dX11_readGoal_34 rfl hl (Nat.le_of_ble_eq_true rfl) rfl (fun ls hl => ?_)
      have hPD9 := cl_s (wc := [(m0, .inr (11, oX11 ra y58)), (ra 2, .inl (kI, 8, .inl q_told)), (ra 10, .inl (kI, 6, .inl q_goal)), (ra 13, .inl (kI, 700, .inl q_tape))]) hP hD [2, 3, 0, 1] rfl (by decide +kernel)
      exact hJ35 _ y58 r56 0 _ _ _ (Nat.lt_succ_self _) (hq59) (w57.1) ((iv_w ivk_0 (by decide) (by decide))) (b42) (b44) ((show RRd tT nN y58 (glK (shT 3 q_goal) 0 r56 (lnk1 tT nN sS (q_told 4))) from gl_0 ▸ hq62)) ((show ((0 : Int32)).toInt ≤ (q_told 6).toInt from by rw [show ((0 : Int32)).toInt = 0 from by decide]; exact b42.1)) ((show okT (lnk1 tT nN sS (q_told 4)) → r56 = lnkA tT nN sS from hv9)) ((show ¬ q_told 6 = 3 from c41)) ((show (x0 2).toInt ≤ (y58 2).toInt from by omega)) ((show y58 3 = x0 3 from hq61.trans (hq50))) ((show y58 1 = x0 1 from hq63.trans (hq53))) ((show y58 10 = x0 10 from hq64.trans (hq54))) ((show y58 23 = x0 23 from hq65.trans (hq55))) (hPD9.1) (hPD9.2) hS (lv_sub hl [2, 1, 0] rfl)
    · have b66 : iv 1 5 (x0 8) := iv_neLo c43 (hX 8 : iv 0 5 (x0 8)) ivk_0 (by decide) (by decide)
      have hP9 := hP
      have hD9 := hD
      exact W.vret hx hb hr (fun t ht hW => ⟨⟨(), rfl, trivial, x0, q_told, q_goal, hX, hq_told, hq_goal, (show (x0 2).toInt ≤ (x0 2).toInt from by omega), (show x0 3 = x0 3 from rfl), (show ∀ j : Nat, (j : Int) < (q_told 1).toInt → (q_from j).toInt < (q_to j).toInt from hLT), (show ∀ j : Nat, (j : Int) < (q_told 5).toInt → (q_from (20 + j)).toInt < (q_to (20 + j)).toInt from hLD), (show RRd tT nN x0 (golS tT nN sS (q_told 4) (q_told 6) (shT 3 q_goal)) from (go_in hRr c43) ▸ hRr), (show x0 8 = 0 → q_told = upd q_told 6 (q_told 6 + 1) ∧ q_goal = upd q_goal ((3 + (q_told 6)).toNatClampNeg) (lnkA tT nN sS) from fun w => absurd w c43), (show x0 1 = x0 1 from rfl), (show x0 10 = x0 10 from rfl), (show x0 23 = x0 23 from rfl), by rw [ht]; exact hP9, hD9⟩, hS.F ht⟩) hS.2.2 dX11_readGoal_23
  · have b67 : iv 3 3 (q_told 6) := iv_eqL c41 ivk_3
    refine lv_aload_n hx hb dX11_readGoal_11 rfl (lv_at hl 0 rfl) ?_
    refine lv_iconst (v := 2) hx hb dX11_readGoal_12 ic_2 ?_
    obtain ⟨hPc, hDc, hFc, hJn⟩ := cl_a (wc := [(m0, .inr (11, oX11 ra x0))]) (wr := [(ra 2, .inl (kI, 8, .inl q_told)), (ra 10, .inl (kI, 6, .inl q_goal)), (ra 13, .inl (kI, 700, .inl q_tape))]) hP hD hS hA [0] [1, 2, 3] rfl rfl (by decide +kernel)
    refine va_callv (va_runV (As := [.int 2]) (rest := []) ⟨hx, hb, hml, hown, hts⟩ (s11_wrong l dC dI kB kI kJ kZ kC kS s.heap.size m0 ra x0 2 tT nN sS (hX) ((iv_w ivk_2 (by decide) (by decide))) (hRr)) (cwV 1 hts gX11_readGoal_X11_wrong rfl rfl rfl (by decide +kernel) ⟨Nat.le_of_ble_eq_true rfl, Nat.le_of_ble_eq_true rfl⟩) ⟨fun a U g mk q => by obtain ⟨q0, q1, qP, qE, qD⟩ := q; exact ⟨q0, q1, qP, kE_call qE, qD⟩, va_recv hK hP (ci := 11) (q0 := 0) rfl rfl, fun U hU hW => ⟨rfl, by rw [hU], by rw [hU]; exact hPc, kE_warm hW hE, hDc.weaken (fun _ _ _ _ => trivial)⟩⟩ rfl rfl hl.1 rfl (lv_room (Nat.le_of_ble_eq_true rfl)) dX11_readGoal_13 ⟨Nat.le_of_ble_eq_true rfl, Nat.le_of_ble_eq_true rfl⟩) hS (fun q _ h => hFc q h) hFc (fun u t H locs ht hvm w69 hB hz1 hk1 hS => ?_)
    obtain ⟨y70, hq71, hq72, hq73, hq74, hq75, hq76, hq77, hq78, hP1, hD1⟩ := hB
    try dsimp only at w69
    obtain ⟨hPa, hDa⟩ := hJn (w1 := [(m0, .inr (11, oX11 ra y70))]) hk1 ht hP1 hD1
    clear hP hD hPc hDc hFc hJn hP1 hD1 hk1
    have hP : va_P (dC, dI) vwCl [(ra 2, .inl (kI, 8, .inl q_told)), (ra 10, .inl (kI, 6, .inl q_goal)), (ra 13, .inl (kI, 700, .inl q_tape)), (m0, .inr (11, oX11 ra y70))] H := hPa
    have hD : va_D A [(ra 2, .inl (kI, 8, .inl q_told)), (ra 10, .inl (kI, 6, .inl q_goal)), (ra 13, .inl (kI, 700, .inl q_tape)), (m0, .inr (11, oX11 ra y70))] := hDa
    clear hPa hDa
    refine W.widen (k := 0) (n := 0) (Nat.le_of_ble_eq_true rfl) (Nat.le_of_ble_eq_true rfl) ?_
    refine lv_aload_n hx hb dX11_readGoal_16 rfl (lv_at hl 0 rfl) ?_
    refine va_get (D := (dC, dI)) (ci := 11) (v := .int (y70 8)) (C := RX11) (T := TX11) (N := 61) hx hb hts hin11 hown hK hP 3 rfl rfl 22 (Nat.le_of_ble_eq_true rfl) hw_1 (fun _ h9 => h9) rfl dX11_readGoal_17 ?_
    refine lv_if_eq (tgt := 24) hx hb dX11_readGoal_20 rfl (fun c9 => absurd c9 (iv_ne hq72 ivk_0 (by decide))) (fun _ => ?_)
    have hPD9 := cl_s (wc := [(m0, .inr (11, oX11 ra y70)), (ra 2, .inl (kI, 8, .inl q_told)), (ra 10, .inl (kI, 6, .inl q_goal)), (ra 13, .inl (kI, 700, .inl q_tape))]) hP hD [3, 0, 1, 2] rfl (by decide +kernel)
    have hP9 := hPD9.1
    have hD9 := hPD9.2
    exact W.vret hx hb hr (fun t ht hW => ⟨⟨(), rfl, trivial, y70, q_told, q_goal, hq71, hq_told, hq_goal, (show (x0 2).toInt ≤ (y70 2).toInt from by omega), (show y70 3 = x0 3 from hq74), (show ∀ j : Nat, (j : Int) < (q_told 1).toInt → (q_from j).toInt < (q_to j).toInt from hLT), (show ∀ j : Nat, (j : Int) < (q_told 5).toInt → (q_from (20 + j)).toInt < (q_to (20 + j)).toInt from hLD), (show RRd tT nN y70 (golS tT nN sS (q_told 4) (q_told 6) (shT 3 q_goal)) from it_t (Q := RRd tT nN y70) c41 (hq75)), (show y70 8 = 0 → q_told = upd q_told 6 (q_told 6 + 1) ∧ q_goal = upd q_goal ((3 + (q_told 6)).toNatClampNeg) (lnkA tT nN sS) from fun w => absurd w (rr_nf hq75)), (show y70 1 = x0 1 from hq76), (show y70 10 = x0 10 from hq77), (show y70 23 = x0 23 from hq78), by rw [ht]; exact hP9, hD9⟩, hS.F ht⟩) hS.2.2 dX11_readGoal_23
