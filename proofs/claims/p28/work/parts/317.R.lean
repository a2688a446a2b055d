def rm_s11_isAddress : Room := { frames := 1, cells := 0, slots := 0, locals := 22 }
set_option maxHeartbeats 4000000 in
set_option maxRecDepth 100000 in
theorem s11_isAddress (l : Launch) (dC : Nat → ClassId) (dI : Nat → Nat → Nat) (kB kI kJ kZ kC kS : ClassId) (sz : Nat) (m0 : Nat) (ra : Nat → Nat) (x0 : Nat → Int32) (q_told : Nat → Int32) (p0 : Int32) (hX : fI lX11 hX11 x0) (hq_told : fI lTold hTold q_told) : Met l yX11_isAddress wsX11_isAddress rm_s11_isAddress (va_Pc [.ref m0, .int p0] (fun U => U.heap.size = sz ∧ va_P (dC, dI) vwCl [(m0, .inr (11, oX11 ra x0)), (ra 2, .inl (kI, 8, .inl q_told))] U.heap ∧ kE dC dI kB kI kJ kZ kC kS U ∧ va_D (fun _ => True) [(m0, .inr (11, oX11 ra x0)), (ra 2, .inl (kI, 8, .inl q_told))])) (va_Qi (fun (r : Int32) (_ : Unit) => iv 0 1 r ∧ (r = 0 ∨ iv 0 20 p0)) (fun _ t => va_P (dC, dI) vwCl [(m0, .inr (11, oX11 ra x0)), (ra 2, .inl (kI, 8, .inl q_told))] t.heap ∧ va_D (va_A [(m0, .inr (11, oX11 ra x0)), (ra 2, .inl (kI, 8, .inl q_told))] sz) [(m0, .inr (11, oX11 ra x0)), (ra 2, .inl (kI, 8, .inl q_told))]) (va_A [(m0, .inr (11, oX11 ra x0)), (ra 2, .inl (kI, 8, .inl q_told))] sz)) 0 0 (va_A [(m0, .inr (11, oX11 ra x0)), (ra 2, .inl (kI, 8, .inl q_told))] sz) := by
  refine Met.ofW (cc := cX11_isAddress) (maxL := 2) (ret := (some .boolean)) (by decide) rfl ?_
  intro p e s m args0 below meth c s₁ B hml hv
  obtain ⟨hargs, hsz, hP, hE, hD0⟩ := hv
  have hx := B.exec
  have hb := B.bytes
  have hr := B.returns
  have hts := atoms_spec (ws := wsX11_isAddress) B.pre
  have hown : s.vm.findClass RX11 = some m.cls := findClass_of_methodNamed B.named
  have hlocks := B.notSynchronized
  have hK := hE.1
  have hin11 : ∀ w ∈ wsX110, w ∈ wsX11_isAddress := fun _ h9 => List.mem_cons_of_mem _ (List.mem_append_right _ h9)
  subst hsz
  have hD := hD0.self (sz := s.heap.size)
  generalize hAe : va_A [(m0, .inr (11, oX11 ra x0)), (ra 2, .inl (kI, 8, .inl q_told))] s.heap.size = A at hD ⊢
  have hA : ∀ q : Nat, s.heap.size ≤ q → A q := fun q h => by rw [← hAe]; exact Or.inr h
  have hS : va_S A s.heap s.heap [] := va_S.rf
  have hP : va_P (dC, dI) vwCl [(m0, .inr (11, oX11 ra x0)), (ra 2, .inl (kI, 8, .inl q_told))] s.heap := hP
  have hl := lv_entry ([.ref m0, .int p0]) (n := 2) (Nat.le_of_ble_eq_true rfl)
  have hla : entryFrame m args0 2 = entryFrame m ([.ref m0, .int p0] : List Value).toArray 2 := by rw [hargs]
  rw [hla, lg_entry_eq]
  generalize (lg_sl ([.ref m0, .int p0]) ++ List.replicate (2 - (lg_sl ([.ref m0, .int p0])).length) Slot.unset).toArray = ls at hl ⊢
  have hl : lv_has ls 2 [(0, .ref m0), (1, .int p0)] := hl
  have hJ23 : ∀ (H : Heap) (locs : List Loc) (ls : Array Slot), (x0 1 = x0 1) → (x0 10 = x0 10) → (x0 21 = x0 21) → (x0 25 = x0 25) → (x0 23 = x0 23) → va_P (dC, dI) vwCl [(m0, .inr (11, oX11 ra x0)), (ra 2, .inl (kI, 8, .inl q_told))] H → va_D A [(m0, .inr (11, oX11 ra x0)), (ra 2, .inl (kI, 8, .inl q_told))] → va_S A s.heap H locs → lv_has ls 2 [(0, .ref m0), (1, .int p0)] → W p l e (headSpec wsX11_isAddress rm_s11_isAddress).room s m args0 below meth c H locs (0) (0) (MQ below (va_Qi (fun (r : Int32) (_ : Unit) => iv 0 1 r ∧ (r = 0 ∨ iv 0 20 p0)) (fun _ t => va_P (dC, dI) vwCl [(m0, .inr (11, oX11 ra x0)), (ra 2, .inl (kI, 8, .inl q_told))] t.heap ∧ va_D A [(m0, .inr (11, oX11 ra x0)), (ra 2, .inl (kI, 8, .inl q_told))]) A) args0 s 0 0 A) (F0 m 23 ls []) := by
    intro H locs ls htp_23 hfp_23 hnd_23 hnt_23 hhm_23 hP hD hS hl
    refine lv_iconst (v := 0) hx hb dX11_isAddress_23 ic_0 ?_
    have hP9 := hP
    have hD9 := hD
    exact W.zret (v := 0) (ty := .boolean) hx hb hr rfl (fun t ht hW => ⟨⟨0, (), rfl, ⟨(iv_w ivk_0 (by decide) (by decide)), Or.inl rfl⟩, by rw [ht]; exact hP9, hD9⟩, hS.F ht⟩) hS.2.2 dX11_isAddress_24
  refine lv_iload_n hx hb dX11_isAddress_0 rfl (lv_at hl 1 rfl) ?_
  refine lv_iconst (v := 0) hx hb dX11_isAddress_1 ic_0 ?_
  refine lv_aload_n hx hb dX11_isAddress_2 rfl (lv_at hl 0 rfl) ?_
  obtain ⟨hPc, hDc, hFc, hJn⟩ := cl_a (wc := [(m0, .inr (11, oX11 ra x0)), (ra 2, .inl (kI, 8, .inl q_told))]) (wr := []) hP hD hS hA [0, 1] [] rfl rfl (by decide +kernel)
  refine va_calli (va_runV (As := []) (rest := [.int 0, .int p0]) ⟨hx, hb, hml, hown, hts⟩ (s11_links l dC dI kB kI kJ kZ kC kS s.heap.size m0 ra x0 q_told (hX) (hq_told)) (cwV 0 hts gX11_isAddress_X11_links rfl rfl rfl (by decide +kernel) ⟨Nat.le_of_ble_eq_true rfl, Nat.le_of_ble_eq_true rfl⟩) ⟨fun a U g mk q => by obtain ⟨q0, q1, qP, qE, qD⟩ := q; exact ⟨q0, q1, qP, kE_call qE, qD⟩, va_recv hK hP (ci := 11) (q0 := 0) rfl rfl, fun U hU hW => ⟨rfl, by rw [hU], by rw [hU]; exact hPc, kE_warm hW hE, hDc.weaken (fun _ _ _ _ => trivial)⟩⟩ rfl rfl hl.1 rfl (lv_room (Nat.le_of_ble_eq_true rfl)) dX11_isAddress_3 ⟨Nat.le_of_ble_eq_true rfl, Nat.le_of_ble_eq_true rfl⟩) hS (fun q _ h => hFc q h) hFc (fun r1 u t H locs ht hvm w2 hB hz1 hk1 hS => ?_)
  obtain ⟨hP1, hD1⟩ := hB
  try dsimp only at w2
  obtain ⟨hPa, hDa⟩ := hJn (w1 := [(m0, .inr (11, oX11 ra x0)), (ra 2, .inl (kI, 8, .inl q_told))]) hk1 ht hP1 hD1
  clear hP hD hPc hDc hFc hJn hP1 hD1 hk1
  have hP : va_P (dC, dI) vwCl [(m0, .inr (11, oX11 ra x0)), (ra 2, .inl (kI, 8, .inl q_told))] H := hPa
  have hD : va_D A [(m0, .inr (11, oX11 ra x0)), (ra 2, .inl (kI, 8, .inl q_told))] := hDa
  clear hPa hDa
  refine W.widen (k := 0) (n := 0) (Nat.le_of_ble_eq_true rfl) (Nat.le_of_ble_eq_true rfl) ?_
  subst w2
  obtain ⟨hPc, hDc, hFc, hJn⟩ := cl_a (wc := []) (wr := [(m0, .inr (11, oX11 ra x0)), (ra 2, .inl (kI, 8, .inl q_told))]) hP hD hS hA [] [0, 1] rfl rfl (by decide +kernel)
  refine va_calli (va_runS (As := [.int p0, .int 0, .int (q_told 1)]) (rest := []) ⟨hx, hb, hml, hown, hts⟩ (s11_isIn l dC dI kB kI kJ kZ kC kS H.size p0 0 (q_told 1)) (va_cwS 3 hts gX11_isAddress_X11_isIn rfl rfl rfl (by decide +kernel) ⟨Nat.le_of_ble_eq_true rfl, Nat.le_of_ble_eq_true rfl⟩) ⟨fun a U g mk q => by obtain ⟨q0, q1, qP, qE, qD⟩ := q; exact ⟨q0, q1, qP, kE_call qE, qD⟩, fun U hU hW => ⟨rfl, by rw [hU], by rw [hU]; exact hPc, kE_warm hW hE, hDc.weaken (fun _ _ _ _ => trivial)⟩⟩ rfl rfl hl.1 rfl (lv_room (Nat.le_of_ble_eq_true rfl)) dX11_isAddress_6 ⟨Nat.le_of_ble_eq_true rfl, Nat.le_of_ble_eq_true rfl⟩) hS (fun q _ h => hFc q h) hFc (fun r3 u t H locs ht hvm w4 hB hz1 hk1 hS => ?_)
  obtain ⟨hP1, hD1⟩ := hB
  try dsimp only at w4
  obtain ⟨hPa, hDa⟩ := hJn (w1 := []) hk1 ht hP1 hD1
  clear hP hD hPc hDc hFc hJn hP1 hD1 hk1
  have hP : va_P (dC, dI) vwCl [(m0, .inr (11, oX11 ra x0)), (ra 2, .inl (kI, 8, .inl q_told))] H := hPa
  have hD : va_D A [(m0, .inr (11, oX11 ra x0)), (ra 2, .inl (kI, 8, .inl q_told))] := hDa
  clear hPa hDa
  refine W.widen (k := 0) (n := 0) (Nat.le_of_ble_eq_true rfl) (Nat.le_of_ble_eq_true rfl) ?_
  refine lv_if_eq (tgt := 23) hx hb dX11_isAddress_9 rfl (fun c5 => ?_) (fun c5 => ?_)
  · have b6 : iv 0 0 r3 := iv_eqL c5 ivk_0
    exact hJ23 _ _ _ ((show x0 1 = x0 1 from rfl)) ((show x0 10 = x0 10 from rfl)) ((show x0 21 = x0 21 from rfl)) ((show x0 25 = x0 25 from rfl)) ((show x0 23 = x0 23 from rfl)) (hP) (hD) hS (lv_sub hl [0, 1] rfl)
  · have b7 : iv 1 1 r3 := iv_neLo c5 w4.1 ivk_0 (by decide) (by decide)
    have hr8 := (w4.2).resolve_left (iv_ne b7 ivk_0 (by decide))
    have b9 : iv 0 20 p0 := iv_cap (in_iv hr8 ivk_0 (hq_told 1 : iv 0 20 (q_told 1))) (iv_t p0) (by decide) (by decide)
    refine lv_aload_n hx hb dX11_isAddress_12 rfl (lv_at hl 0 rfl) ?_
    obtain ⟨hPc, hDc, hFc, hJn⟩ := cl_a (wc := [(m0, .inr (11, oX11 ra x0)), (ra 2, .inl (kI, 8, .inl q_told))]) (wr := []) hP hD hS hA [0, 1] [] rfl rfl (by decide +kernel)
    refine va_calli (va_runV (As := []) (rest := []) ⟨hx, hb, hml, hown, hts⟩ (s11_routers l dC dI kB kI kJ kZ kC kS H.size m0 ra x0 q_told (hX) (hq_told)) (cwV 0 hts gX11_isAddress_X11_routers rfl rfl rfl (by decide +kernel) ⟨Nat.le_of_ble_eq_true rfl, Nat.le_of_ble_eq_true rfl⟩) ⟨fun a U g mk q => by obtain ⟨q0, q1, qP, qE, qD⟩ := q; exact ⟨q0, q1, qP, kE_call qE, qD⟩, va_recv hK hP (ci := 11) (q0 := 0) rfl rfl, fun U hU hW => ⟨rfl, by rw [hU], by rw [hU]; exact hPc, kE_warm hW hE, hDc.weaken (fun _ _ _ _ => trivial)⟩⟩ rfl rfl hl.1 rfl (lv_room (Nat.le_of_ble_eq_true rfl)) dX11_isAddress_13 ⟨Nat.le_of_ble_eq_true rfl, Nat.le_of_ble_eq_true rfl⟩) hS (fun q _ h => hFc q h) hFc (fun r10 u t H locs ht hvm w11 hB hz1 hk1 hS => ?_)
    obtain ⟨hP1, hD1⟩ := hB
    try dsimp only at w11
    obtain ⟨hPa, hDa⟩ := hJn (w1 := [(m0, .inr (11, oX11 ra x0)), (ra 2, .inl (kI, 8, .inl q_told))]) hk1 ht hP1 hD1
    clear hP hD hPc hDc hFc hJn hP1 hD1 hk1
    have hP : va_P (dC, dI) vwCl [(m0, .inr (11, oX11 ra x0)), (ra 2, .inl (kI, 8, .inl q_told))] H := hPa
    have hD : va_D A [(m0, .inr (11, oX11 ra x0)), (ra 2, .inl (kI, 8, .inl q_told))] := hDa
    clear hPa hDa
    refine W.widen (k := 0) (n := 0) (Nat.le_of_ble_eq_true rfl) (Nat.le_of_ble_eq_true rfl) ?_
    subst w11
    refine lv_if_le (tgt := 23) hx hb dX11_isAddress_16 rfl (fun c12 => ?_) (fun c12 => ?_)
    · have b13 : iv 0 0 (q_told 0) := iv_leL c12 (hq_told 0 : iv 0 12 (q_told 0)) ivk_0 (by decide) (by decide)
      exact hJ23 _ _ _ ((show x0 1 = x0 1 from rfl)) ((show x0 10 = x0 10 from rfl)) ((show x0 21 = x0 21 from rfl)) ((show x0 25 = x0 25 from rfl)) ((show x0 23 = x0 23 from rfl)) (hP) (hD) hS (lv_sub hl [0, 1] rfl)
    · have b14 : iv 1 12 (q_told 0) := iv_ltR (Int32.not_le.mp c12) ivk_0 (hq_told 0 : iv 0 12 (q_told 0)) (by decide) (by decide)
      refine lv_iconst (v := 1) hx hb dX11_isAddress_19 ic_1 ?_
      refine lv_goto (tgt := 24) hx hb dX11_isAddress_20 rfl ?_
      have hP9 := hP
      have hD9 := hD
      exact W.zret (v := 1) (ty := .boolean) hx hb hr rfl (fun t ht hW => ⟨⟨1, (), rfl, ⟨(iv_w ivk_1 (by decide) (by decide)), Or.inr (b9)⟩, by rw [ht]; exact hP9, hD9⟩, hS.F ht⟩) hS.2.2 dX11_isAddress_24
def rm_s11_wasSeen : Room := { frames := 4, cells := 0, slots := 0, locals := 92 }
set_option maxHeartbeats 4000000 in
set_option maxRecDepth 100000 in
theorem s11_wasSeen (l : Launch) (dC : Nat → ClassId) (dI : Nat → Nat → Nat) (kB kI kJ kZ kC kS : ClassId) (sz : Nat) (m0 : Nat) (ra : Nat → Nat) (x0 : Nat → Int32) (q_told : Nat → Int32) (q_now : Nat → Int32) (p0 : Int32) (hX : fI lX11 hX11 x0) (hq_told : fI lTold hTold q_told) (hq_now : fI lNow hNow q_now) : Met l yX11_wasSeen wsX11_wasSeen rm_s11_wasSeen (va_Pc [.ref m0, .int p0] (fun U => U.heap.size = sz ∧ va_P (dC, dI) vwCl [(m0, .inr (11, oX11 ra x0)), (ra 2, .inl (kI, 8, .inl q_told)), (ra 11, .inl (kI, 1019, .inl q_now))] U.heap ∧ kE dC dI kB kI kJ kZ kC kS U ∧ va_D (fun _ => True) [(m0, .inr (11, oX11 ra x0)), (ra 2, .inl (kI, 8, .inl q_told)), (ra 11, .inl (kI, 1019, .inl q_now))])) (va_Qi (fun (r : Int32) (_ : Unit) => iv 0 1 r ∧ (r = 0 ∨ iv 0 20 p0)) (fun _ t => va_P (dC, dI) vwCl [(m0, .inr (11, oX11 ra x0)), (ra 2, .inl (kI, 8, .inl q_told)), (ra 11, .inl (kI, 1019, .inl q_now))] t.heap ∧ va_D (va_A [(m0, .inr (11, oX11 ra x0)), (ra 2, .inl (kI, 8, .inl q_told)), (ra 11, .inl (kI, 1019, .inl q_now))] sz) [(m0, .inr (11, oX11 ra x0)), (ra 2, .inl (kI, 8, .inl q_told)), (ra 11, .inl (kI, 1019, .inl q_now))]) (va_A [(m0, .inr (11, oX11 ra x0)), (ra 2, .inl (kI, 8, .inl q_told)), (ra 11, .inl (kI, 1019, .inl q_now))] sz)) 0 0 (va_A [(m0, .inr (11, oX11 ra x0)), (ra 2, .inl (kI, 8, .inl q_told)), (ra 11, .inl (kI, 1019, .inl q_now))] sz) := by
  refine Met.ofW (cc := cX11_wasSeen) (maxL := 2) (ret := (some .boolean)) (by decide) rfl ?_
  intro p e s m args0 below meth c s₁ B hml hv
  obtain ⟨hargs, hsz, hP, hE, hD0⟩ := hv
  have hx := B.exec
  have hb := B.bytes
  have hr := B.returns
  have hts := atoms_spec (ws := wsX11_wasSeen) B.pre
  have hown : s.vm.findClass RX11 = some m.cls := findClass_of_methodNamed B.named
  have hlocks := B.notSynchronized
  have hK := hE.1
  have hin11 : ∀ w ∈ wsX110, w ∈ wsX11_wasSeen := fun _ h9 => List.mem_cons_of_mem _ (List.mem_append_right _ h9)
  subst hsz
  have hD := hD0.self (sz := s.heap.size)
  generalize hAe : va_A [(m0, .inr (11, oX11 ra x0)), (ra 2, .inl (kI, 8, .inl q_told)), (ra 11, .inl (kI, 1019, .inl q_now))] s.heap.size = A at hD ⊢
  have hA : ∀ q : Nat, s.heap.size ≤ q → A q := fun q h => by rw [← hAe]; exact Or.inr h
  have hS : va_S A s.heap s.heap [] := va_S.rf
  have hP : va_P (dC, dI) vwCl [(m0, .inr (11, oX11 ra x0)), (ra 2, .inl (kI, 8, .inl q_told)), (ra 11, .inl (kI, 1019, .inl q_now))] s.heap := hP
  have hl := lv_entry ([.ref m0, .int p0]) (n := 2) (Nat.le_of_ble_eq_true rfl)
  have hla : entryFrame m args0 2 = entryFrame m ([.ref m0, .int p0] : List Value).toArray 2 := by rw [hargs]
  rw [hla, lg_entry_eq]
  generalize (lg_sl ([.ref m0, .int p0]) ++ List.replicate (2 - (lg_sl ([.ref m0, .int p0])).length) Slot.unset).toArray = ls at hl ⊢
  have hl : lv_has ls 2 [(0, .ref m0), (1, .int p0)] := hl
  have hJ24 : ∀ (H : Heap) (locs : List Loc) (ls : Array Slot), (x0 1 = x0 1) → (x0 10 = x0 10) → (x0 21 = x0 21) → (x0 25 = x0 25) → (x0 23 = x0 23) → va_P (dC, dI) vwCl [(m0, .inr (11, oX11 ra x0)), (ra 2, .inl (kI, 8, .inl q_told)), (ra 11, .inl (kI, 1019, .inl q_now))] H → va_D A [(m0, .inr (11, oX11 ra x0)), (ra 2, .inl (kI, 8, .inl q_told)), (ra 11, .inl (kI, 1019, .inl q_now))] → va_S A s.heap H locs → lv_has ls 2 [(0, .ref m0), (1, .int p0)] → W p l e (headSpec wsX11_wasSeen rm_s11_wasSeen).room s m args0 below meth c H locs (0) (0) (MQ below (va_Qi (fun (r : Int32) (_ : Unit) => iv 0 1 r ∧ (r = 0 ∨ iv 0 20 p0)) (fun _ t => va_P (dC, dI) vwCl [(m0, .inr (11, oX11 ra x0)), (ra 2, .inl (kI, 8, .inl q_told)), (ra 11, .inl (kI, 1019, .inl q_now))] t.heap ∧ va_D A [(m0, .inr (11, oX11 ra x0)), (ra 2, .inl (kI, 8, .inl q_told)), (ra 11, .inl (kI, 1019, .inl q_now))]) A) args0 s 0 0 A) (F0 m 24 ls []) := by
    intro H locs ls htp_24 hfp_24 hnd_24 hnt_24 hhm_24 hP hD hS hl
    refine lv_iconst (v := 0) hx hb dX11_wasSeen_24 ic_0 ?_
    have hP9 := hP
    have hD9 := hD
    exact W.zret (v := 0) (ty := .boolean) hx hb hr rfl (fun t ht hW => ⟨⟨0, (), rfl, ⟨(iv_w ivk_0 (by decide) (by decide)), Or.inl rfl⟩, by rw [ht]; exact hP9, hD9⟩, hS.F ht⟩) hS.2.2 dX11_wasSeen_25
  refine lv_aload_n hx hb dX11_wasSeen_0 rfl (lv_at hl 0 rfl) ?_
  refine lv_iload_n hx hb dX11_wasSeen_1 rfl (lv_at hl 1 rfl) ?_
  obtain ⟨hPc, hDc, hFc, hJn⟩ := cl_a (wc := [(m0, .inr (11, oX11 ra x0)), (ra 2, .inl (kI, 8, .inl q_told))]) (wr := [(ra 11, .inl (kI, 1019, .inl q_now))]) hP hD hS hA [0, 1] [2] rfl rfl (by decide +kernel)
  refine va_calli (va_runV (As := [.int p0]) (rest := []) ⟨hx, hb, hml, hown, hts⟩ (s11_isAddress l dC dI kB kI kJ kZ kC kS s.heap.size m0 ra x0 q_told p0 (hX) (hq_told)) (cwV 1 hts gX11_wasSeen_X11_isAddress rfl rfl rfl (by decide +kernel) ⟨Nat.le_of_ble_eq_true rfl, Nat.le_of_ble_eq_true rfl⟩) ⟨fun a U g mk q => by obtain ⟨q0, q1, qP, qE, qD⟩ := q; exact ⟨q0, q1, qP, kE_call qE, qD⟩, va_recv hK hP (ci := 11) (q0 := 0) rfl rfl, fun U hU hW => ⟨rfl, by rw [hU], by rw [hU]; exact hPc, kE_warm hW hE, hDc.weaken (fun _ _ _ _ => trivial)⟩⟩ rfl rfl hl.1 rfl (lv_room (Nat.le_of_ble_eq_true rfl)) dX11_wasSeen_2 ⟨Nat.le_of_ble_eq_true rfl, Nat.le_of_ble_eq_true rfl⟩) hS (fun q _ h => hFc q h) hFc (fun r1 u t H locs ht hvm w2 hB hz1 hk1 hS => ?_)
  obtain ⟨hP1, hD1⟩ := hB
  try dsimp only at w2
  obtain ⟨hPa, hDa⟩ := hJn (w1 := [(m0, .inr (11, oX11 ra x0)), (ra 2, .inl (kI, 8, .inl q_told))]) hk1 ht hP1 hD1
  clear hP hD hPc hDc hFc hJn hP1 hD1 hk1
  have hP : va_P (dC, dI) vwCl [(ra 11, .inl (kI, 1019, .inl q_now)), (m0, .inr (11, oX11 ra x0)), (ra 2, .inl (kI, 8, .inl q_told))] H := hPa
  have hD : va_D A [(ra 11, .inl (kI, 1019, .inl q_now)), (m0, .inr (11, oX11 ra x0)), (ra 2, .inl (kI, 8, .inl q_told))] := hDa
  clear hPa hDa
  refine W.widen (k := 0) (n := 0) (Nat.le_of_ble_eq_true rfl) (Nat.le_of_ble_eq_true rfl) ?_
  refine lv_if_eq (tgt := 24) hx hb dX11_wasSeen_5 rfl (fun c3 => ?_) (fun c3 => ?_)
  · have b4 : iv 0 0 r1 := iv_eqL c3 ivk_0
    have hPD9 := cl_s (wc := [(m0, .inr (11, oX11 ra x0)), (ra 2, .inl (kI, 8, .inl q_told)), (ra 11, .inl (kI, 1019, .inl q_now))]) hP hD [1, 2, 0] rfl (by decide +kernel)
    exact hJ24 _ _ _ ((show x0 1 = x0 1 from rfl)) ((show x0 10 = x0 10 from rfl)) ((show x0 21 = x0 21 from rfl)) ((show x0 25 = x0 25 from rfl)) ((show x0 23 = x0 23 from rfl)) (hPD9.1) (hPD9.2) hS (lv_sub hl [0, 1] rfl)
  · have b5 : iv 1 1 r1 := iv_neLo c3 w2.1 ivk_0 (by decide) (by decide)
    have b6 : iv 0 20 p0 := (w2.2).resolve_left (iv_ne b5 ivk_0 (by decide))
    refine lv_aload_n hx hb dX11_wasSeen_8 rfl (lv_at hl 0 rfl) ?_
    obtain ⟨hPc, hDc, hFc, hJn⟩ := cl_a (wc := [(m0, .inr (11, oX11 ra x0)), (ra 2, .inl (kI, 8, .inl q_told)), (ra 11, .inl (kI, 1019, .inl q_now))]) (wr := []) hP hD hS hA [1, 2, 0] [] rfl rfl (by decide +kernel)
    refine va_calli (va_runV (As := []) (rest := []) ⟨hx, hb, hml, hown, hts⟩ (s11_allSeen l dC dI kB kI kJ kZ kC kS H.size m0 ra x0 q_told q_now (hX) (hq_told) (hq_now)) (cwV 0 hts gX11_wasSeen_X11_allSeen rfl rfl rfl (by decide +kernel) ⟨Nat.le_of_ble_eq_true rfl, Nat.le_of_ble_eq_true rfl⟩) ⟨fun a U g mk q => by obtain ⟨q0, q1, qP, qE, qD⟩ := q; exact ⟨q0, q1, qP, kE_call qE, qD⟩, va_recv hK hP (ci := 11) (q0 := 1) rfl rfl, fun U hU hW => ⟨rfl, by rw [hU], by rw [hU]; exact hPc, kE_warm hW hE, hDc.weaken (fun _ _ _ _ => trivial)⟩⟩ rfl rfl hl.1 rfl (lv_room (Nat.le_of_ble_eq_true rfl)) dX11_wasSeen_9 ⟨Nat.le_of_ble_eq_true rfl, Nat.le_of_ble_eq_true rfl⟩) hS (fun q _ h => hFc q h) hFc (fun r7 u t H locs ht hvm w8 hB hz1 hk1 hS => ?_)
    obtain ⟨hP1, hD1⟩ := hB
    try dsimp only at w8
    obtain ⟨hPa, hDa⟩ := hJn (w1 := [(m0, .inr (11, oX11 ra x0)), (ra 2, .inl (kI, 8, .inl q_told)), (ra 11, .inl (kI, 1019, .inl q_now))]) hk1 ht hP1 hD1
    clear hP hD hPc hDc hFc hJn hP1 hD1 hk1
    have hP : va_P (dC, dI) vwCl [(m0, .inr (11, oX11 ra x0)), (ra 2, .inl (kI, 8, .inl q_told)), (ra 11, .inl (kI, 1019, .inl q_now))] H := hPa
    have hD : va_D A [(m0, .inr (11, oX11 ra x0)), (ra 2, .inl (kI, 8, .inl q_told)), (ra 11, .inl (kI, 1019, .inl q_now))] := hDa
    clear hPa hDa
    refine W.widen (k := 0) (n := 0) (Nat.le_of_ble_eq_true rfl) (Nat.le_of_ble_eq_true rfl) ?_
    refine lv_iload_n hx hb dX11_wasSeen_12 rfl (lv_at hl 1 rfl) ?_
    refine lv_ishr hx hb dX11_wasSeen_13 ?_
    refine lv_topi (fun z9 _ => ?_)
    refine lv_iconst (v := 1) hx hb dX11_wasSeen_14 ic_1 ?_
    refine lv_iand hx hb dX11_wasSeen_15 ?_
    refine iv_top (a := 0) (b := 1) (iv_and (m := 1) (by decide) (by decide) (by decide)) (fun z10 b11 => ?_)
    refine lv_iconst (v := 1) hx hb dX11_wasSeen_16 ic_1 ?_
    refine lv_icmp_ne (tgt := 24) hx hb dX11_wasSeen_17 rfl (fun c12 => ?_) (fun c12 => ?_)
    · have b13 : iv 0 0 z10 := iv_neHi c12 b11 ivk_1 (by decide) (by decide)
      exact hJ24 _ _ _ ((show x0 1 = x0 1 from rfl)) ((show x0 10 = x0 10 from rfl)) ((show x0 21 = x0 21 from rfl)) ((show x0 25 = x0 25 from rfl)) ((show x0 23 = x0 23 from rfl)) (hP) (hD) hS (lv_sub hl [0, 1] rfl)
    · have b14 : iv 1 1 z10 := iv_eqL c12 ivk_1
      refine lv_iconst (v := 1) hx hb dX11_wasSeen_20 ic_1 ?_
      refine lv_goto (tgt := 25) hx hb dX11_wasSeen_21 rfl ?_
      have hP9 := hP
      have hD9 := hD
      exact W.zret (v := 1) (ty := .boolean) hx hb hr rfl (fun t ht hW => ⟨⟨1, (), rfl, ⟨(iv_w ivk_1 (by decide) (by decide)), Or.inr (b6)⟩, by rw [ht]; exact hP9, hD9⟩, hS.F ht⟩) hS.2.2 dX11_wasSeen_25
def rm_s11_feed : Room := { frames := 0, cells := 0, slots := 0, locals := 0 }
set_option maxHeartbeats 4000000 in
set_option maxRecDepth 100000 in
theorem s11_feed (l : Launch) (dC : Nat → ClassId) (dI : Nat → Nat → Nat) (kB kI kJ kZ kC kS : ClassId) (sz : Nat) (m0 : Nat) (ra : Nat → Nat) (x0 : Nat → Int32) (q_tape : Nat → Int32) (p0 : Int32) (p1 : Int32) (p2 : Int32) (p3 : Int32) (p4 : Int32) (hX : fI lX11 hX11 x0) (hq_tape : fI (fun _ => 0) (fun _ => 255) q_tape) : Met l yX11_feed wsX11_feed rm_s11_feed (va_Pc [.ref m0, .int p0, .int p1, .int p2, .int p3, .int p4] (fun U => U.heap.size = sz ∧ va_P (dC, dI) vwCl [(m0, .inr (11, oX11 ra x0)), (ra 13, .inl (kI, 700, .inl q_tape))] U.heap ∧ kE dC dI kB kI kJ kZ kC kS U ∧ va_D (fun _ => True) [(m0, .inr (11, oX11 ra x0)), (ra 13, .inl (kI, 700, .inl q_tape))])) (va_Qi (fun (r : Int32) (_ : Unit) => iv (-1) 700 r) (fun _ t => ∃ (x0' : Nat → Int32) (q_tape' : Nat → Int32), fI lX11 hX11 x0' ∧ fI (fun _ => 0) (fun _ => 255) q_tape' ∧ (x0' 10 = x0 10) ∧ (x0' 21 = x0 21) ∧ (x0' 25 = x0 25) ∧ (x0' 23 = x0 23) ∧ va_P (dC, dI) vwCl [(m0, .inr (11, oX11 ra x0')), (ra 13, .inl (kI, 700, .inl q_tape'))] t.heap ∧ va_D (va_A [(m0, .inr (11, oX11 ra x0)), (ra 13, .inl (kI, 700, .inl q_tape))] sz) [(m0, .inr (11, oX11 ra x0')), (ra 13, .inl (kI, 700, .inl q_tape'))]) (va_A [(m0, .inr (11, oX11 ra x0)), (ra 13, .inl (kI, 700, .inl q_tape))] sz)) 0 0 (va_A [(m0, .inr (11, oX11 ra x0)), (ra 13, .inl (kI, 700, .inl q_tape))] sz) := by
  refine Met.ofW (cc := cX11_feed) (maxL := 8) (ret := (some .int)) (by decide) rfl ?_
  intro p e s m args0 below meth c s₁ B hml hv
  obtain ⟨hargs, hsz, hP, hE, hD0⟩ := hv
  have hx := B.exec
  have hb := B.bytes
  have hr := B.returns
  have hts := atoms_spec (ws := wsX11_feed) B.pre
  have hown : s.vm.findClass RX11 = some m.cls := findClass_of_methodNamed B.named
  have hlocks := B.notSynchronized
  have hK := hE.1
  have hin11 : ∀ w ∈ wsX110, w ∈ wsX11_feed := fun _ h9 => List.mem_cons_of_mem _ (List.mem_append_right _ h9)
  have hw_0 := hts (.fieldLink RX11 145 "PathProberModel" "taped" "I") (List.mem_of_getElem? (i := 2) rfl)
  have hw_1 := hts (.fieldLink RX11 66 "PathProberModel" "tape" "[I") (List.mem_of_getElem? (i := 3) rfl)
  have hw_2 := hts (.fieldLink RX11 142 "PathProberModel" "code" "I") (List.mem_of_getElem? (i := 1) rfl)
  subst hsz
  have hD := hD0.self (sz := s.heap.size)
  generalize hAe : va_A [(m0, .inr (11, oX11 ra x0)), (ra 13, .inl (kI, 700, .inl q_tape))] s.heap.size = A at hD ⊢
  have hA : ∀ q : Nat, s.heap.size ≤ q → A q := fun q h => by rw [← hAe]; exact Or.inr h
  have hS : va_S A s.heap s.heap [] := va_S.rf
  have hP : va_P (dC, dI) vwCl [(m0, .inr (11, oX11 ra x0)), (ra 13, .inl (kI, 700, .inl q_tape))] s.heap := hP
  have hl := lv_entry ([.ref m0, .int p0, .int p1, .int p2, .int p3, .int p4]) (n := 8) (Nat.le_of_ble_eq_true rfl)
  have hla : entryFrame m args0 8 = entryFrame m ([.ref m0, .int p0, .int p1, .int p2, .int p3, .int p4] : List Value).toArray 8 := by rw [hargs]
  rw [hla, lg_entry_eq]
  generalize (lg_sl ([.ref m0, .int p0, .int p1, .int p2, .int p3, .int p4]) ++ List.replicate (8 - (lg_sl ([.ref m0, .int p0, .int p1, .int p2, .int p3, .int p4])).length) Slot.unset).toArray = ls at hl ⊢
  have hl : lv_has ls 8 [(0, .ref m0), (1, .int p0), (2, .int p1), (3, .int p2), (4, .int p3), (5, .int p4)] := hl
  have hJ23 : ∀ (n : Nat) (y23_0 : Nat → Int32) (g23_1 : Nat → Int32) (v23_loc6 : Int32) (H : Heap) (locs : List Loc) (ls : Array Slot), (20 - v23_loc6.toInt).toNat < n → fI lX11 hX11 y23_0 → fI (fun _ => 0) (fun _ => 255) g23_1 → iv 0 20 v23_loc6 → iv 0 0 (y23_0 0) → iv 20 700 ((x0 1) + 20) → ((y23_0 1).toInt = (x0 1).toInt + v23_loc6.toInt) → ((x0 1).toInt + 20 ≤ 700) → (y23_0 10 = x0 10) → (y23_0 21 = x0 21) → (y23_0 25 = x0 25) → (y23_0 23 = x0 23) → va_P (dC, dI) vwCl [(m0, .inr (11, oX11 ra y23_0)), (ra 13, .inl (kI, 700, .inl g23_1))] H → va_D A [(m0, .inr (11, oX11 ra y23_0)), (ra 13, .inl (kI, 700, .inl g23_1))] → va_S A s.heap H locs → lv_has ls 8 [(0, .ref m0), (1, .int p0), (2, .int p1), (3, .int p2), (4, .int p3), (5, .int p4), (6, .int v23_loc6)] → W p l e (headSpec wsX11_feed rm_s11_feed).room s m args0 below meth c H locs (0) (0) (MQ below (va_Qi (fun (r : Int32) (_ : Unit) => iv (-1) 700 r) (fun _ t => ∃ (x0' : Nat → Int32) (q_tape' : Nat → Int32), fI lX11 hX11 x0' ∧ fI (fun _ => 0) (fun _ => 255) q_tape' ∧ (x0' 10 = x0 10) ∧ (x0' 21 = x0 21) ∧ (x0' 25 = x0 25) ∧ (x0' 23 = x0 23) ∧ va_P (dC, dI) vwCl [(m0, .inr (11, oX11 ra x0')), (ra 13, .inl (kI, 700, .inl q_tape'))] t.heap ∧ va_D A [(m0, .inr (11, oX11 ra x0')), (ra 13, .inl (kI, 700, .inl q_tape'))]) A) args0 s 0 0 A) (F0 m 23 ls []) := by
    intro n
    induction n with
    | zero => intro y23_0 g23_1 v23_loc6 H locs ls hm23; exact absurd hm23 (Nat.not_lt_zero _)
    | succ n ih23 =>
      intro y23_0 g23_1 v23_loc6 H locs ls hm23 hI23_0 hI23_1 h23_3 h23_4 h23_5 hfd_23 hro_23 hfp_23 hnd_23 hnt_23 hhm_23 hP hD hS hl
      refine lv_iload hx hb dX11_feed_23 (lv_at hl 6 rfl) ?_
      refine lv_bipush (v := 20) hx hb dX11_feed_25 bp_20 ?_
      refine lv_icmp_ge (tgt := 120) hx hb dX11_feed_27 rfl (fun c1 => ?_) (fun c1 => ?_)
      · have b2 : iv 20 20 v23_loc6 := iv_leR c1 ivk_20 h23_3 (by decide) (by decide)
        refine lv_aload_n hx hb dX11_feed_120 rfl (lv_at hl 0 rfl) ?_
        refine va_get (D := (dC, dI)) (ci := 11) (v := .int (y23_0 1)) (C := RX11) (T := TX11) (N := 61) hx hb hts hin11 hown hK hP 0 rfl rfl 15 (Nat.le_of_ble_eq_true rfl) hw_0 (fun _ h9 => h9) rfl dX11_feed_121 ?_
        have hP9 := hP
        have hD9 := hD
        exact W.iret (v := y23_0 1) hx hb hr (fun t ht hW => ⟨⟨y23_0 1, (), rfl, (iv_w (hI23_0 1 : iv 0 700 (y23_0 1)) (by decide) (by decide)), y23_0, g23_1, hI23_0, hI23_1, (show y23_0 10 = x0 10 from hfp_23), (show y23_0 21 = x0 21 from hnd_23), (show y23_0 25 = x0 25 from hnt_23), (show y23_0 23 = x0 23 from hhm_23), by rw [ht]; exact hP9, hD9⟩, hS.F ht⟩) hS.2.2 dX11_feed_124
      · have b3 : iv 0 19 v23_loc6 := iv_ltL (Int32.not_le.mp c1) h23_3 ivk_20 (by decide) (by decide)
        refine lv_iload hx hb dX11_feed_30 (lv_at hl 6 rfl) ?_
        refine lv_iconst (v := 4) hx hb dX11_feed_32 ic_4 ?_
        refine lv_icmp_ge (tgt := 40) hx hb dX11_feed_33 rfl (fun c4 => ?_) (fun c4 => ?_)
        · have b5 : iv 4 19 v23_loc6 := iv_leR c4 ivk_4 b3 (by decide) (by decide)
          refine lv_iload hx hb dX11_feed_40 (lv_at hl 6 rfl) ?_
          refine lv_bipush (v := 8) hx hb dX11_feed_42 bp_8 ?_
          refine lv_icmp_ge (tgt := 51) hx hb dX11_feed_44 rfl (fun c6 => ?_) (fun c6 => ?_)
          · have b7 : iv 8 19 v23_loc6 := iv_leR c6 ivk_8 b5 (by decide) (by decide)
            refine lv_iload hx hb dX11_feed_51 (lv_at hl 6 rfl) ?_
            refine lv_bipush (v := 12) hx hb dX11_feed_53 bp_12 ?_
            refine lv_icmp_ge (tgt := 62) hx hb dX11_feed_55 rfl (fun c8 => ?_) (fun c8 => ?_)
            · have b9 : iv 12 19 v23_loc6 := iv_leR c8 ivk_12 b7 (by decide) (by decide)
              refine lv_iload hx hb dX11_feed_62 (lv_at hl 6 rfl) ?_
              refine lv_bipush (v := 16) hx hb dX11_feed_64 bp_16 ?_
              refine lv_icmp_ge (tgt := 74) hx hb dX11_feed_66 rfl (fun c10 => ?_) (fun c10 => ?_)
              · have b11 : iv 16 19 v23_loc6 := iv_leR c10 ivk_16 b9 (by decide) (by decide)
                refine lv_iload hx hb dX11_feed_74 (lv_at hl 5 rfl) ?_
                refine lv_istore (lv' := [(7, .int p4), (0, .ref m0), (1, .int p0), (2, .int p1), (3, .int p2), (4, .int p3), (5, .int p4), (6, .int v23_loc6)]) hx hb dX11_feed_76 hl (Nat.le_of_ble_eq_true rfl) rfl (fun ls hl => ?_)
                have b12 : iv 0 699 (y23_0 1) := feed_699 hfd_23 hro_23 (hI23_0 1 : iv 0 700 (y23_0 1)) (iv_w b11 (by decide) (by decide))
                refine lv_aload_n hx hb dX11_feed_78 rfl (lv_at hl 1 rfl) ?_
                refine va_get (D := (dC, dI)) (ci := 11) (v := .ref (ra 13)) (C := RX11) (T := TX11) (N := 61) hx hb hts hin11 hown hK hP 0 rfl rfl 14 (Nat.le_of_ble_eq_true rfl) hw_1 (fun _ h9 => h9) rfl dX11_feed_79 ?_
                refine lv_aload_n hx hb dX11_feed_82 rfl (lv_at hl 1 rfl) ?_
                refine va_get (D := (dC, dI)) (ci := 11) (v := .int (y23_0 1)) (C := RX11) (T := TX11) (N := 61) hx hb hts hin11 hown hK hP 0 rfl rfl 15 (Nat.le_of_ble_eq_true rfl) hw_0 (fun _ h9 => h9) rfl dX11_feed_83 ?_
                refine lv_iload hx hb dX11_feed_86 (lv_at hl 0 rfl) ?_
                refine lv_bipush (v := 24) hx hb dX11_feed_88 bp_24 ?_
                refine lv_bipush (v := 8) hx hb dX11_feed_90 bp_8 ?_
                refine lv_iload hx hb dX11_feed_92 (lv_at hl 7 rfl) ?_
                refine lv_iconst (v := 4) hx hb dX11_feed_94 ic_4 ?_
                refine lv_irem hx hb dX11_feed_95 (by decide) ?_
                refine iv_top (a := 0) (b := 3) (iv_rem b11 ivk_4 (by decide) (by decide) (by decide) (by decide)) (fun z13 b14 => ?_)
                refine lv_imul hx hb dX11_feed_96 ?_
                refine iv_top (a := 0) (b := 24) (iv_mul ivk_8 b14 (by decide) (by decide) (by decide) (by decide) (by decide)) (fun z15 b16 => ?_)
                refine lv_isub hx hb dX11_feed_97 ?_
                refine iv_top (a := 0) (b := 24) (iv_sub ivk_24 b16 (by decide) (by decide) (by decide) (by decide)) (fun z17 b18 => ?_)
                refine lv_ishr hx hb dX11_feed_98 ?_
                refine lv_topi (fun z19 _ => ?_)
                refine lv_sipush (v := 255) hx hb dX11_feed_99 (by decide) ?_
                refine lv_iand hx hb dX11_feed_102 ?_
                refine iv_top (a := 0) (b := 255) (iv_and (m := 255) (by decide) (by decide) (by decide)) (fun z20 b21 => ?_)
                refine va_iast hx hb hK hP hD hS 1 1 rfl rfl (iv_in b12 (by decide) (by decide)) dX11_feed_103 (fun H locs hPa hDa hS => ?_)
                clear hP hD
                have hP : va_P (dC, dI) vwCl [(m0, .inr (11, oX11 ra y23_0)), (ra 13, .inl (kI, 700, .inl (upd g23_1 (y23_0 1).toNatClampNeg z20)))] H := hPa
                have hD : va_D A [(m0, .inr (11, oX11 ra y23_0)), (ra 13, .inl (kI, 700, .inl (upd g23_1 (y23_0 1).toNatClampNeg z20)))] := hDa
                clear hPa hDa
                have hf23 : fI (fun _ => 0) (fun _ => 255) (upd g23_1 (y23_0 1).toNatClampNeg z20) := fI_u hI23_1 (k := (y23_0 1).toNatClampNeg) (b21)
                generalize (upd g23_1 (y23_0 1).toNatClampNeg z20) = f22 at hP hD hf23
                refine lv_aload_n hx hb dX11_feed_104 rfl (lv_at hl 1 rfl) ?_
                refine lv_dup hx hb dX11_feed_105 rfl ?_
                refine va_get (D := (dC, dI)) (ci := 11) (v := .int (y23_0 1)) (C := RX11) (T := TX11) (N := 61) hx hb hts hin11 hown hK hP 0 rfl rfl 15 (Nat.le_of_ble_eq_true rfl) hw_0 (fun _ h9 => h9) rfl dX11_feed_106 ?_
                refine lv_iconst (v := 1) hx hb dX11_feed_109 ic_1 ?_
                refine lv_iadd hx hb dX11_feed_110 ?_
                have b24 : iv 1 700 ((y23_0 1) + 1) := iv_add b12 ivk_1 (by decide) (by decide) (by decide) (by decide)
                have t25 : ((y23_0 1) + 1).toInt = (y23_0 1).toInt + 1 := iv_addc b12 (by decide) (by decide) (by decide)
                refine va_put (D := (dC, dI)) (ci := 11) (v := .int ((y23_0 1) + 1)) (ty := .int) (C := RX11) (T := TX11) (N := 61) hx hb hts hin11 tyX11 tyX11_ok nmX11 hown hK hP hD hS 0 rfl rfl 15 (by decide) hw_0 (fun _ h9 => h9) rfl (by decide +kernel) rfl rfl (Nat.le_of_ble_eq_true rfl) dX11_feed_111 (fun H locs hPa hDa hS => ?_)
                clear hP hD
                have hP : va_P (dC, dI) vwCl [(m0, .inr (11, oX11 ra (upd y23_0 1 ((y23_0 1) + 1)))), (ra 13, .inl (kI, 700, .inl f22))] H := hPa
                have hD : va_D A [(m0, .inr (11, oX11 ra (upd y23_0 1 ((y23_0 1) + 1)))), (ra 13, .inl (kI, 700, .inl f22))] := hDa
                clear hPa hDa
                refine lv_iinc (v := v23_loc6 + Int32.ofInt 1) (lv' := [(6, .int (v23_loc6 + Int32.ofInt 1)), (7, .int p4), (0, .ref m0), (1, .int p0), (2, .int p1), (3, .int p2), (4, .int p3), (5, .int p4)]) hx hb dX11_feed_114 hl (k := 7) rfl (rfl) (Nat.le_of_ble_eq_true rfl) rfl (fun ls hl => ?_)
                have b26 : iv 17 20 (v23_loc6 + Int32.ofInt 1) := iv_add b11 ivo_1 (by decide) (by decide) (by decide) (by decide)
                have t27 : (v23_loc6 + Int32.ofInt 1).toInt = v23_loc6.toInt + 1 := iv_inc 1 b11 (by decide) (by decide) (by decide) (by decide)
                refine lv_goto (tgt := 23) hx hb dX11_feed_117 rfl ?_
                exact ih23 (upd y23_0 1 ((y23_0 1) + 1)) f22 (v23_loc6 + Int32.ofInt 1) _ _ _ (ms_up (c := 1) (d := 0) b11 hm23 (by decide) (iv_inc 1 b11 (by decide) (by decide) (by decide) (by decide)) (by decide) rfl) ((fI_u hI23_0 (k := 1) ((iv_w b24 (by decide) (by decide))))) (hf23) ((iv_w b26 (by decide) (by decide))) (h23_4) (h23_5) ((show ((y23_0 1) + 1).toInt = (x0 1).toInt + (v23_loc6 + Int32.ofInt 1).toInt from by have q5 := hfd_23; omega)) ((show (x0 1).toInt + 20 ≤ 700 from hro_23)) ((show y23_0 10 = x0 10 from hfp_23)) ((show y23_0 21 = x0 21 from hnd_23)) ((show y23_0 25 = x0 25 from hnt_23)) ((show y23_0 23 = x0 23 from hhm_23)) (hP) (hD) hS (lv_sub hl [2, 3, 4, 5, 6, 7, 0] rfl)
              · have b28 : iv 12 15 v23_loc6 := iv_ltL (Int32.not_le.mp c10) b9 ivk_16 (by decide) (by decide)
                refine lv_iload hx hb dX11_feed_69 (lv_at hl 4 rfl) ?_
                refine lv_goto (tgt := 76) hx hb dX11_feed_71 rfl ?_
                refine lv_istore (lv' := [(7, .int p3), (0, .ref m0), (1, .int p0), (2, .int p1), (3, .int p2), (4, .int p3), (5, .int p4), (6, .int v23_loc6)]) hx hb dX11_feed_76 hl (Nat.le_of_ble_eq_true rfl) rfl (fun ls hl => ?_)
                have b29 : iv 0 699 (y23_0 1) := feed_699 hfd_23 hro_23 (hI23_0 1 : iv 0 700 (y23_0 1)) (iv_w b28 (by decide) (by decide))
                refine lv_aload_n hx hb dX11_feed_78 rfl (lv_at hl 1 rfl) ?_
                refine va_get (D := (dC, dI)) (ci := 11) (v := .ref (ra 13)) (C := RX11) (T := TX11) (N := 61) hx hb hts hin11 hown hK hP 0 rfl rfl 14 (Nat.le_of_ble_eq_true rfl) hw_1 (fun _ h9 => h9) rfl dX11_feed_79 ?_
                refine lv_aload_n hx hb dX11_feed_82 rfl (lv_at hl 1 rfl) ?_
                refine va_get (D := (dC, dI)) (ci := 11) (v := .int (y23_0 1)) (C := RX11) (T := TX11) (N := 61) hx hb hts hin11 hown hK hP 0 rfl rfl 15 (Nat.le_of_ble_eq_true rfl) hw_0 (fun _ h9 => h9) rfl dX11_feed_83 ?_
                refine lv_iload hx hb dX11_feed_86 (lv_at hl 0 rfl) ?_
                refine lv_bipush (v := 24) hx hb dX11_feed_88 bp_24 ?_
                refine lv_bipush (v := 8) hx hb dX11_feed_90 bp_8 ?_
                refine lv_iload hx hb dX11_feed_92 (lv_at hl 7 rfl) ?_
                refine lv_iconst (v := 4) hx hb dX11_feed_94 ic_4 ?_
                refine lv_irem hx hb dX11_feed_95 (by decide) ?_
                refine iv_top (a := 0) (b := 3) (iv_rem b28 ivk_4 (by decide) (by decide) (by decide) (by decide)) (fun z30 b31 => ?_)
                refine lv_imul hx hb dX11_feed_96 ?_
                refine iv_top (a := 0) (b := 24) (iv_mul ivk_8 b31 (by decide) (by decide) (by decide) (by decide) (by decide)) (fun z32 b33 => ?_)
                refine lv_isub hx hb dX11_feed_97 ?_
                refine iv_top (a := 0) (b := 24) (iv_sub ivk_24 b33 (by decide) (by decide) (by decide) (by decide)) (fun z34 b35 => ?_)
                refine lv_ishr hx hb dX11_feed_98 ?_
                refine lv_topi (fun z36 _ => ?_)
                refine lv_sipush (v := 255) hx hb dX11_feed_99 (by decide) ?_
                refine lv_iand hx hb dX11_feed_102 ?_
                refine iv_top (a := 0) (b := 255) (iv_and (m := 255) (by decide) (by decide) (by decide)) (fun z37 b38 => ?_)
                refine va_iast hx hb hK hP hD hS 1 1 rfl rfl (iv_in b29 (by decide) (by decide)) dX11_feed_103 (fun H locs hPa hDa hS => ?_)
                clear hP hD
                have hP : va_P (dC, dI) vwCl [(m0, .inr (11, oX11 ra y23_0)), (ra 13, .inl (kI, 700, .inl (upd g23_1 (y23_0 1).toNatClampNeg z37)))] H := hPa
                have hD : va_D A [(m0, .inr (11, oX11 ra y23_0)), (ra 13, .inl (kI, 700, .inl (upd g23_1 (y23_0 1).toNatClampNeg z37)))] := hDa
                clear hPa hDa
                have hf40 : fI (fun _ => 0) (fun _ => 255) (upd g23_1 (y23_0 1).toNatClampNeg z37) := fI_u hI23_1 (k := (y23_0 1).toNatClampNeg) (b38)
                generalize (upd g23_1 (y23_0 1).toNatClampNeg z37) = f39 at hP hD hf40
                refine lv_aload_n hx hb dX11_feed_104 rfl (lv_at hl 1 rfl) ?_
                refine lv_dup hx hb dX11_feed_105 rfl ?_
                refine va_get (D := (dC, dI)) (ci := 11) (v := .int (y23_0 1)) (C := RX11) (T := TX11) (N := 61) hx hb hts hin11 hown hK hP 0 rfl rfl 15 (Nat.le_of_ble_eq_true rfl) hw_0 (fun _ h9 => h9) rfl dX11_feed_106 ?_
                refine lv_iconst (v := 1) hx hb dX11_feed_109 ic_1 ?_
                refine lv_iadd hx hb dX11_feed_110 ?_
                have b41 : iv 1 700 ((y23_0 1) + 1) := iv_add b29 ivk_1 (by decide) (by decide) (by decide) (by decide)
                have t42 : ((y23_0 1) + 1).toInt = (y23_0 1).toInt + 1 := iv_addc b29 (by decide) (by decide) (by decide)
                refine va_put (D := (dC, dI)) (ci := 11) (v := .int ((y23_0 1) + 1)) (ty := .int) (C := RX11) (T := TX11) (N := 61) hx hb hts hin11 tyX11 tyX11_ok nmX11 hown hK hP hD hS 0 rfl rfl 15 (by decide) hw_0 (fun _ h9 => h9) rfl (by decide +kernel) rfl rfl (Nat.le_of_ble_eq_true rfl) dX11_feed_111 (fun H locs hPa hDa hS => ?_)
                clear hP hD
                have hP : va_P (dC, dI) vwCl [(m0, .inr (11, oX11 ra (upd y23_0 1 ((y23_0 1) + 1)))), (ra 13, .inl (kI, 700, .inl f39))] H := hPa
                have hD : va_D A [(m0, .inr (11, oX11 ra (upd y23_0 1 ((y23_0 1) + 1)))), (ra 13, .inl (kI, 700, .inl f39))] := hDa
                clear hPa hDa
                refine lv_iinc (v := v23_loc6 + Int32.ofInt 1) (lv' := [(6, .int (v23_loc6 + Int32.ofInt 1)), (7, .int p3), (0, .ref m0), (1, .int p0), (2, .int p1), (3, .int p2), (4, .int p3), (5, .int p4)]) hx hb dX11_feed_114 hl (k := 7) rfl (rfl) (Nat.le_of_ble_eq_true rfl) rfl (fun ls hl => ?_)
                have b43 : iv 13 16 (v23_loc6 + Int32.ofInt 1) := iv_add b28 ivo_1 (by decide) (by decide) (by decide) (by decide)
                have t44 : (v23_loc6 + Int32.ofInt 1).toInt = v23_loc6.toInt + 1 := iv_inc 1 b28 (by decide) (by decide) (by decide) (by decide)
                refine lv_goto (tgt := 23) hx hb dX11_feed_117 rfl ?_
                exact ih23 (upd y23_0 1 ((y23_0 1) + 1)) f39 (v23_loc6 + Int32.ofInt 1) _ _ _ (ms_up (c := 1) (d := 0) b28 hm23 (by decide) (iv_inc 1 b28 (by decide) (by decide) (by decide) (by decide)) (by decide) rfl) ((fI_u hI23_0 (k := 1) ((iv_w b41 (by decide) (by decide))))) (hf40) ((iv_w b43 (by decide) (by decide))) (h23_4) (h23_5) ((show ((y23_0 1) + 1).toInt = (x0 1).toInt + (v23_loc6 + Int32.ofInt 1).toInt from by have q5 := hfd_23; omega)) ((show (x0 1).toInt + 20 ≤ 700 from hro_23)) ((show y23_0 10 = x0 10 from hfp_23)) ((show y23_0 21 = x0 21 from hnd_23)) ((show y23_0 25 = x0 25 from hnt_23)) ((show y23_0 23 = x0 23 from hhm_23)) (hP) (hD) hS (lv_sub hl [2, 3, 4, 5, 6, 7, 0] rfl)
            · have b45 : iv 8 11 v23_loc6 := iv_ltL (Int32.not_le.mp c8) b7 ivk_12 (by decide) (by decide)
              refine lv_iload_n hx hb dX11_feed_58 rfl (lv_at hl 3 rfl) ?_
              refine lv_goto (tgt := 76) hx hb dX11_feed_59 rfl ?_
              refine lv_istore (lv' := [(7, .int p2), (0, .ref m0), (1, .int p0), (2, .int p1), (3, .int p2), (4, .int p3), (5, .int p4), (6, .int v23_loc6)]) hx hb dX11_feed_76 hl (Nat.le_of_ble_eq_true rfl) rfl (fun ls hl => ?_)
              have b46 : iv 0 699 (y23_0 1) := feed_699 hfd_23 hro_23 (hI23_0 1 : iv 0 700 (y23_0 1)) (iv_w b45 (by decide) (by decide))
              refine lv_aload_n hx hb dX11_feed_78 rfl (lv_at hl 1 rfl) ?_
              refine va_get (D := (dC, dI)) (ci := 11) (v := .ref (ra 13)) (C := RX11) (T := TX11) (N := 61) hx hb hts hin11 hown hK hP 0 rfl rfl 14 (Nat.le_of_ble_eq_true rfl) hw_1 (fun _ h9 => h9) rfl dX11_feed_79 ?_
              refine lv_aload_n hx hb dX11_feed_82 rfl (lv_at hl 1 rfl) ?_
              refine va_get (D := (dC, dI)) (ci := 11) (v := .int (y23_0 1)) (C := RX11) (T := TX11) (N := 61) hx hb hts hin11 hown hK hP 0 rfl rfl 15 (Nat.le_of_ble_eq_true rfl) hw_0 (fun _ h9 => h9) rfl dX11_feed_83 ?_
              refine lv_iload hx hb dX11_feed_86 (lv_at hl 0 rfl) ?_
              refine lv_bipush (v := 24) hx hb dX11_feed_88 bp_24 ?_
              refine lv_bipush (v := 8) hx hb dX11_feed_90 bp_8 ?_
              refine lv_iload hx hb dX11_feed_92 (lv_at hl 7 rfl) ?_
              refine lv_iconst (v := 4) hx hb dX11_feed_94 ic_4 ?_
              refine lv_irem hx hb dX11_feed_95 (by decide) ?_
              refine iv_top (a := 0) (b := 3) (iv_rem b45 ivk_4 (by decide) (by decide) (by decide) (by decide)) (fun z47 b48 => ?_)
              refine lv_imul hx hb dX11_feed_96 ?_
              refine iv_top (a := 0) (b := 24) (iv_mul ivk_8 b48 (by decide) (by decide) (by decide) (by decide) (by decide)) (fun z49 b50 => ?_)
              refine lv_isub hx hb dX11_feed_97 ?_
              refine iv_top (a := 0) (b := 24) (iv_sub ivk_24 b50 (by decide) (by decide) (by decide) (by decide)) (fun z51 b52 => ?_)
              refine lv_ishr hx hb dX11_feed_98 ?_
              refine lv_topi (fun z53 _ => ?_)
              refine lv_sipush (v := 255) hx hb dX11_feed_99 (by decide) ?_
              refine lv_iand hx hb dX11_feed_102 ?_
              refine iv_top (a := 0) (b := 255) (iv_and (m := 255) (by decide) (by decide) (by decide)) (fun z54 b55 => ?_)
              refine va_iast hx hb hK hP hD hS 1 1 rfl rfl (iv_in b46 (by decide) (by decide)) dX11_feed_103 (fun H locs hPa hDa hS => ?_)
              clear hP hD
              have hP : va_P (dC, dI) vwCl [(m0, .inr (11, oX11 ra y23_0)), (ra 13, .inl (kI, 700, .inl (upd g23_1 (y23_0 1).toNatClampNeg z54)))] H := hPa
              have hD : va_D A [(m0, .inr (11, oX11 ra y23_0)), (ra 13, .inl (kI, 700, .inl (upd g23_1 (y23_0 1).toNatClampNeg z54)))] := hDa
              clear hPa hDa
              have hf57 : fI (fun _ => 0) (fun _ => 255) (upd g23_1 (y23_0 1).toNatClampNeg z54) := fI_u hI23_1 (k := (y23_0 1).toNatClampNeg) (b55)
              generalize (upd g23_1 (y23_0 1).toNatClampNeg z54) = f56 at hP hD hf57
              refine lv_aload_n hx hb dX11_feed_104 rfl (lv_at hl 1 rfl) ?_
              refine lv_dup hx hb dX11_feed_105 rfl ?_
              refine va_get (D := (dC, dI)) (ci := 11) (v := .int (y23_0 1)) (C := RX11) (T := TX11) (N := 61) hx hb hts hin11 hown hK hP 0 rfl rfl 15 (Nat.le_of_ble_eq_true rfl) hw_0 (fun _ h9 => h9) rfl dX11_feed_106 ?_
              refine lv_iconst (v := 1) hx hb dX11_feed_109 ic_1 ?_
              refine lv_iadd hx hb dX11_feed_110 ?_
              have b58 : iv 1 700 ((y23_0 1) + 1) := iv_add b46 ivk_1 (by decide) (by decide) (by decide) (by decide)
              have t59 : ((y23_0 1) + 1).toInt = (y23_0 1).toInt + 1 := iv_addc b46 (by decide) (by decide) (by decide)
              refine va_put (D := (dC, dI)) (ci := 11) (v := .int ((y23_0 1) + 1)) (ty := .int) (C := RX11) (T := TX11) (N := 61) hx hb hts hin11 tyX11 tyX11_ok nmX11 hown hK hP hD hS 0 rfl rfl 15 (by decide) hw_0 (fun _ h9 => h9) rfl (by decide +kernel) rfl rfl (Nat.le_of_ble_eq_true rfl) dX11_feed_111 (fun H locs hPa hDa hS => ?_)
              clear hP hD
              have hP : va_P (dC, dI) vwCl [(m0, .inr (11, oX11 ra (upd y23_0 1 ((y23_0 1) + 1)))), (ra 13, .inl (kI, 700, .inl f56))] H := hPa
              have hD : va_D A [(m0, .inr (11, oX11 ra (upd y23_0 1 ((y23_0 1) + 1)))), (ra 13, .inl (kI, 700, .inl f56))] := hDa
              clear hPa hDa
              refine lv_iinc (v := v23_loc6 + Int32.ofInt 1) (lv' := [(6, .int (v23_loc6 + Int32.ofInt 1)), (7, .int p2), (0, .ref m0), (1, .int p0), (2, .int p1), (3, .int p2), (4, .int p3), (5, .int p4)]) hx hb dX11_feed_114 hl (k := 7) rfl (rfl) (Nat.le_of_ble_eq_true rfl) rfl (fun ls hl => ?_)
              have b60 : iv 9 12 (v23_loc6 + Int32.ofInt 1) := iv_add b45 ivo_1 (by decide) (by decide) (by decide) (by decide)
              have t61 : (v23_loc6 + Int32.ofInt 1).toInt = v23_loc6.toInt + 1 := iv_inc 1 b45 (by decide) (by decide) (by decide) (by decide)
              refine lv_goto (tgt := 23) hx hb dX11_feed_117 rfl ?_
              exact ih23 (upd y23_0 1 ((y23_0 1) + 1)) f56 (v23_loc6 + Int32.ofInt 1) _ _ _ (ms_up (c := 1) (d := 0) b45 hm23 (by decide) (iv_inc 1 b45 (by decide) (by decide) (by decide) (by decide)) (by decide) rfl) ((fI_u hI23_0 (k := 1) ((iv_w b58 (by decide) (by decide))))) (hf57) ((iv_w b60 (by decide) (by decide))) (h23_4) (h23_5) ((show ((y23_0 1) + 1).toInt = (x0 1).toInt + (v23_loc6 + Int32.ofInt 1).toInt from by have q5 := hfd_23; omega)) ((show (x0 1).toInt + 20 ≤ 700 from hro_23)) ((show y23_0 10 = x0 10 from hfp_23)) ((show y23_0 21 = x0 21 from hnd_23)) ((show y23_0 25 = x0 25 from hnt_23)) ((show y23_0 23 = x0 23 from hhm_23)) (hP) (hD) hS (lv_sub hl [2, 3, 4, 5, 6, 7, 0] rfl)
          · have b62 : iv 4 7 v23_loc6 := iv_ltL (Int32.not_le.mp c6) b5 ivk_8 (by decide) (by decide)
            refine lv_iload_n hx hb dX11_feed_47 rfl (lv_at hl 2 rfl) ?_
            refine lv_goto (tgt := 76) hx hb dX11_feed_48 rfl ?_
            refine lv_istore (lv' := [(7, .int p1), (0, .ref m0), (1, .int p0), (2, .int p1), (3, .int p2), (4, .int p3), (5, .int p4), (6, .int v23_loc6)]) hx hb dX11_feed_76 hl (Nat.le_of_ble_eq_true rfl) rfl (fun ls hl => ?_)
            have b63 : iv 0 699 (y23_0 1) := feed_699 hfd_23 hro_23 (hI23_0 1 : iv 0 700 (y23_0 1)) (iv_w b62 (by decide) (by decide))
            refine lv_aload_n hx hb dX11_feed_78 rfl (lv_at hl 1 rfl) ?_
            refine va_get (D := (dC, dI)) (ci := 11) (v := .ref (ra 13)) (C := RX11) (T := TX11) (N := 61) hx hb hts hin11 hown hK hP 0 rfl rfl 14 (Nat.le_of_ble_eq_true rfl) hw_1 (fun _ h9 => h9) rfl dX11_feed_79 ?_
            refine lv_aload_n hx hb dX11_feed_82 rfl (lv_at hl 1 rfl) ?_
            refine va_get (D := (dC, dI)) (ci := 11) (v := .int (y23_0 1)) (C := RX11) (T := TX11) (N := 61) hx hb hts hin11 hown hK hP 0 rfl rfl 15 (Nat.le_of_ble_eq_true rfl) hw_0 (fun _ h9 => h9) rfl dX11_feed_83 ?_
            refine lv_iload hx hb dX11_feed_86 (lv_at hl 0 rfl) ?_
            refine lv_bipush (v := 24) hx hb dX11_feed_88 bp_24 ?_
            refine lv_bipush (v := 8) hx hb dX11_feed_90 bp_8 ?_
            refine lv_iload hx hb dX11_feed_92 (lv_at hl 7 rfl) ?_
            refine lv_iconst (v := 4) hx hb dX11_feed_94 ic_4 ?_
            refine lv_irem hx hb dX11_feed_95 (by decide) ?_
            refine iv_top (a := 0) (b := 3) (iv_rem b62 ivk_4 (by decide) (by decide) (by decide) (by decide)) (fun z64 b65 => ?_)
            refine lv_imul hx hb dX11_feed_96 ?_
            refine iv_top (a := 0) (b := 24) (iv_mul ivk_8 b65 (by decide) (by decide) (by decide) (by decide) (by decide)) (fun z66 b67 => ?_)
            refine lv_isub hx hb dX11_feed_97 ?_
            refine iv_top (a := 0) (b := 24) (iv_sub ivk_24 b67 (by decide) (by decide) (by decide) (by decide)) (fun z68 b69 => ?_)
            refine lv_ishr hx hb dX11_feed_98 ?_
            refine lv_topi (fun z70 _ => ?_)
            refine lv_sipush (v := 255) hx hb dX11_feed_99 (by decide) ?_
            refine lv_iand hx hb dX11_feed_102 ?_
            refine iv_top (a := 0) (b := 255) (iv_and (m := 255) (by decide) (by decide) (by decide)) (fun z71 b72 => ?_)
            refine va_iast hx hb hK hP hD hS 1 1 rfl rfl (iv_in b63 (by decide) (by decide)) dX11_feed_103 (fun H locs hPa hDa hS => ?_)
            clear hP hD
            have hP : va_P (dC, dI) vwCl [(m0, .inr (11, oX11 ra y23_0)), (ra 13, .inl (kI, 700, .inl (upd g23_1 (y23_0 1).toNatClampNeg z71)))] H := hPa
            have hD : va_D A [(m0, .inr (11, oX11 ra y23_0)), (ra 13, .inl (kI, 700, .inl (upd g23_1 (y23_0 1).toNatClampNeg z71)))] := hDa
            clear hPa hDa
            have hf74 : fI (fun _ => 0) (fun _ => 255) (upd g23_1 (y23_0 1).toNatClampNeg z71) := fI_u hI23_1 (k := (y23_0 1).toNatClampNeg) (b72)
            generalize (upd g23_1 (y23_0 1).toNatClampNeg z71) = f73 at hP hD hf74
            refine lv_aload_n hx hb dX11_feed_104 rfl (lv_at hl 1 rfl) ?_
            refine lv_dup hx hb dX11_feed_105 rfl ?_
            refine va_get (D := (dC, dI)) (ci := 11) (v := .int (y23_0 1)) (C := RX11) (T := TX11) (N := 61) hx hb hts hin11 hown hK hP 0 rfl rfl 15 (Nat.le_of_ble_eq_true rfl) hw_0 (fun _ h9 => h9) rfl dX11_feed_106 ?_
            refine lv_iconst (v := 1) hx hb dX11_feed_109 ic_1 ?_
            refine lv_iadd hx hb dX11_feed_110 ?_
            have b75 : iv 1 700 ((y23_0 1) + 1) := iv_add b63 ivk_1 (by decide) (by decide) (by decide) (by decide)
            have t76 : ((y23_0 1) + 1).toInt = (y23_0 1).toInt + 1 := iv_addc b63 (by decide) (by decide) (by decide)
            refine va_put (D := (dC, dI)) (ci := 11) (v := .int ((y23_0 1) + 1)) (ty := .int) (C := RX11) (T := TX11) (N := 61) hx hb hts hin11 tyX11 tyX11_ok nmX11 hown hK hP hD hS 0 rfl rfl 15 (by decide) hw_0 (fun _ h9 => h9) rfl (by decide +kernel) rfl rfl (Nat.le_of_ble_eq_true rfl) dX11_feed_111 (fun H locs hPa hDa hS => ?_)
            clear hP hD
            have hP : va_P (dC, dI) vwCl [(m0, .inr (11, oX11 ra (upd y23_0 1 ((y23_0 1) + 1)))), (ra 13, .inl (kI, 700, .inl f73))] H := hPa
            have hD : va_D A [(m0, .inr (11, oX11 ra (upd y23_0 1 ((y23_0 1) + 1)))), (ra 13, .inl (kI, 700, .inl f73))] := hDa
            clear hPa hDa
            refine lv_iinc (v := v23_loc6 + Int32.ofInt 1) (lv' := [(6, .int (v23_loc6 + Int32.ofInt 1)), (7, .int p1), (0, .ref m0), (1, .int p0), (2, .int p1), (3, .int p2), (4, .int p3), (5, .int p4)]) hx hb dX11_feed_114 hl (k := 7) rfl (rfl) (Nat.le_of_ble_eq_true rfl) rfl (fun ls hl => ?_)
            have b77 : iv 5 8 (v23_loc6 + Int32.ofInt 1) := iv_add b62 ivo_1 (by decide) (by decide) (by decide) (by decide)
            have t78 : (v23_loc6 + Int32.ofInt 1).toInt = v23_loc6.toInt + 1 := iv_inc 1 b62 (by decide) (by decide) (by decide) (by decide)
            refine lv_goto (tgt := 23) hx hb dX11_feed_117 rfl ?_
            exact ih23 (upd y23_0 1 ((y23_0 1) + 1)) f73 (v23_loc6 + Int32.ofInt 1) _ _ _ (ms_up (c := 1) (d := 0) b62 hm23 (by decide) (iv_inc 1 b62 (by decide) (by decide) (by decide) (by decide)) (by decide) rfl) ((fI_u hI23_0 (k := 1) ((iv_w b75 (by decide) (by decide))))) (hf74) ((iv_w b77 (by decide) (by decide))) (h23_4) (h23_5) ((show ((y23_0 1) + 1).toInt = (x0 1).toInt + (v23_loc6 + Int32.ofInt 1).toInt from by have q5 := hfd_23; omega)) ((show (x0 1).toInt + 20 ≤ 700 from hro_23)) ((show y23_0 10 = x0 10 from hfp_23)) ((show y23_0 21 = x0 21 from hnd_23)) ((show y23_0 25 = x0 25 from hnt_23)) ((show y23_0 23 = x0 23 from hhm_23)) (hP) (hD) hS (lv_sub hl [2, 3, 4, 5, 6, 7, 0] rfl)
        · have b79 : iv 0 3 v23_loc6 := iv_ltL (Int32.not_le.mp c4) b3 ivk_4 (by decide) (by decide)
          refine lv_iload_n hx hb dX11_feed_36 rfl (lv_at hl 1 rfl) ?_
          refine lv_goto (tgt := 76) hx hb dX11_feed_37 rfl ?_
          refine lv_istore (lv' := [(7, .int p0), (0, .ref m0), (1, .int p0), (2, .int p1), (3, .int p2), (4, .int p3), (5, .int p4), (6, .int v23_loc6)]) hx hb dX11_feed_76 hl (Nat.le_of_ble_eq_true rfl) rfl (fun ls hl => ?_)
          have b80 : iv 0 699 (y23_0 1) := feed_699 hfd_23 hro_23 (hI23_0 1 : iv 0 700 (y23_0 1)) (iv_w b79 (by decide) (by decide))
          refine lv_aload_n hx hb dX11_feed_78 rfl (lv_at hl 1 rfl) ?_
          refine va_get (D := (dC, dI)) (ci := 11) (v := .ref (ra 13)) (C := RX11) (T := TX11) (N := 61) hx hb hts hin11 hown hK hP 0 rfl rfl 14 (Nat.le_of_ble_eq_true rfl) hw_1 (fun _ h9 => h9) rfl dX11_feed_79 ?_
          refine lv_aload_n hx hb dX11_feed_82 rfl (lv_at hl 1 rfl) ?_
          refine va_get (D := (dC, dI)) (ci := 11) (v := .int (y23_0 1)) (C := RX11) (T := TX11) (N := 61) hx hb hts hin11 hown hK hP 0 rfl rfl 15 (Nat.le_of_ble_eq_true rfl) hw_0 (fun _ h9 => h9) rfl dX11_feed_83 ?_
          refine lv_iload hx hb dX11_feed_86 (lv_at hl 0 rfl) ?_
          refine lv_bipush (v := 24) hx hb dX11_feed_88 bp_24 ?_
          refine lv_bipush (v := 8) hx hb dX11_feed_90 bp_8 ?_
          refine lv_iload hx hb dX11_feed_92 (lv_at hl 7 rfl) ?_
          refine lv_iconst (v := 4) hx hb dX11_feed_94 ic_4 ?_
          refine lv_irem hx hb dX11_feed_95 (by decide) ?_
          refine iv_top (a := 0) (b := 3) (iv_rem b79 ivk_4 (by decide) (by decide) (by decide) (by decide)) (fun z81 b82 => ?_)
          refine lv_imul hx hb dX11_feed_96 ?_
          refine iv_top (a := 0) (b := 24) (iv_mul ivk_8 b82 (by decide) (by decide) (by decide) (by decide) (by decide)) (fun z83 b84 => ?_)
          refine lv_isub hx hb dX11_feed_97 ?_
          refine iv_top (a := 0) (b := 24) (iv_sub ivk_24 b84 (by decide) (by decide) (by decide) (by decide)) (fun z85 b86 => ?_)
          refine lv_ishr hx hb dX11_feed_98 ?_
          refine lv_topi (fun z87 _ => ?_)
          refine lv_sipush (v := 255) hx hb dX11_feed_99 (by decide) ?_
          refine lv_iand hx hb dX11_feed_102 ?_
          refine iv_top (a := 0) (b := 255) (iv_and (m := 255) (by decide) (by decide) (by decide)) (fun z88 b89 => ?_)
          refine va_iast hx hb hK hP hD hS 1 1 rfl rfl (iv_in b80 (by decide) (by decide)) dX11_feed_103 (fun H locs hPa hDa hS => ?_)
          clear hP hD
          have hP : va_P (dC, dI) vwCl [(m0, .inr (11, oX11 ra y23_0)), (ra 13, .inl (kI, 700, .inl (upd g23_1 (y23_0 1).toNatClampNeg z88)))] H := hPa
          have hD : va_D A [(m0, .inr (11, oX11 ra y23_0)), (ra 13, .inl (kI, 700, .inl (upd g23_1 (y23_0 1).toNatClampNeg z88)))] := hDa
          clear hPa hDa
          have hf91 : fI (fun _ => 0) (fun _ => 255) (upd g23_1 (y23_0 1).toNatClampNeg z88) := fI_u hI23_1 (k := (y23_0 1).toNatClampNeg) (b89)
          generalize (upd g23_1 (y23_0 1).toNatClampNeg z88) = f90 at hP hD hf91
          refine lv_aload_n hx hb dX11_feed_104 rfl (lv_at hl 1 rfl) ?_
          refine lv_dup hx hb dX11_feed_105 rfl ?_
          refine va_get (D := (dC, dI)) (ci := 11) (v := .int (y23_0 1)) (C := RX11) (T := TX11) (N := 61) hx hb hts hin11 hown hK hP 0 rfl rfl 15 (Nat.le_of_ble_eq_true rfl) hw_0 (fun _ h9 => h9) rfl dX11_feed_106 ?_
          refine lv_iconst (v := 1) hx hb dX11_feed_109 ic_1 ?_
          refine lv_iadd hx hb dX11_feed_110 ?_
          have b92 : iv 1 700 ((y23_0 1) + 1) := iv_add b80 ivk_1 (by decide) (by decide) (by decide) (by decide)
          have t93 : ((y23_0 1) + 1).toInt = (y23_0 1).toInt + 1 := iv_addc b80 (by decide) (by decide) (by decide)
          refine va_put (D := (dC, dI)) (ci := 11) (v := .int ((y23_0 1) + 1)) (ty := .int) (C := RX11) (T := TX11) (N := 61) hx hb hts hin11 tyX11 tyX11_ok nmX11 hown hK hP hD hS 0 rfl rfl 15 (by decide) hw_0 (fun _ h9 => h9) rfl (by decide +kernel) rfl rfl (Nat.le_of_ble_eq_true rfl) dX11_feed_111 (fun H locs hPa hDa hS => ?_)
          clear hP hD
          have hP : va_P (dC, dI) vwCl [(m0, .inr (11, oX11 ra (upd y23_0 1 ((y23_0 1) + 1)))), (ra 13, .inl (kI, 700, .inl f90))] H := hPa
          have hD : va_D A [(m0, .inr (11, oX11 ra (upd y23_0 1 ((y23_0 1) + 1)))), (ra 13, .inl (kI, 700, .inl f90))] := hDa
          clear hPa hDa
          refine lv_iinc (v := v23_loc6 + Int32.ofInt 1) (lv' := [(6, .int (v23_loc6 + Int32.ofInt 1)), (7, .int p0), (0, .ref m0), (1, .int p0), (2, .int p1), (3, .int p2), (4, .int p3), (5, .int p4)]) hx hb dX11_feed_114 hl (k := 7) rfl (rfl) (Nat.le_of_ble_eq_true rfl) rfl (fun ls hl => ?_)
          have b94 : iv 1 4 (v23_loc6 + Int32.ofInt 1) := iv_add b79 ivo_1 (by decide) (by decide) (by decide) (by decide)
          have t95 : (v23_loc6 + Int32.ofInt 1).toInt = v23_loc6.toInt + 1 := iv_inc 1 b79 (by decide) (by decide) (by decide) (by decide)
          refine lv_goto (tgt := 23) hx hb dX11_feed_117 rfl ?_
          exact ih23 (upd y23_0 1 ((y23_0 1) + 1)) f90 (v23_loc6 + Int32.ofInt 1) _ _ _ (ms_up (c := 1) (d := 0) b79 hm23 (by decide) (iv_inc 1 b79 (by decide) (by decide) (by decide) (by decide)) (by decide) rfl) ((fI_u hI23_0 (k := 1) ((iv_w b92 (by decide) (by decide))))) (hf91) ((iv_w b94 (by decide) (by decide))) (h23_4) (h23_5) ((show ((y23_0 1) + 1).toInt = (x0 1).toInt + (v23_loc6 + Int32.ofInt 1).toInt from by have q5 := hfd_23; omega)) ((show (x0 1).toInt + 20 ≤ 700 from hro_23)) ((show y23_0 10 = x0 10 from hfp_23)) ((show y23_0 21 = x0 21 from hnd_23)) ((show y23_0 25 = x0 25 from hnt_23)) ((show y23_0 23 = x0 23 from hhm_23)) (hP) (hD) hS (lv_sub hl [2, 3, 4, 5, 6, 7, 0] rfl)
  refine lv_aload_n hx hb dX11_feed_0 rfl (lv_at hl 0 rfl) ?_
  refine lv_iconst (v := 0) hx hb dX11_feed_1 ic_0 ?_
  refine va_put (D := (dC, dI)) (ci := 11) (v := .int 0) (ty := .int) (C := RX11) (T := TX11) (N := 61) hx hb hts hin11 tyX11 tyX11_ok nmX11 hown hK hP hD hS 0 rfl rfl 2 (by decide) hw_2 (fun _ h9 => h9) rfl (by decide +kernel) rfl rfl (Nat.le_of_ble_eq_true rfl) dX11_feed_2 (fun H locs hPa hDa hS => ?_)
  clear hP hD
  have hP : va_P (dC, dI) vwCl [(m0, .inr (11, oX11 ra (upd x0 0 0))), (ra 13, .inl (kI, 700, .inl q_tape))] H := hPa
  have hD : va_D A [(m0, .inr (11, oX11 ra (upd x0 0 0))), (ra 13, .inl (kI, 700, .inl q_tape))] := hDa
  clear hPa hDa
  refine lv_aload_n hx hb dX11_feed_5 rfl (lv_at hl 0 rfl) ?_
  refine va_get (D := (dC, dI)) (ci := 11) (v := .int (x0 1)) (C := RX11) (T := TX11) (N := 61) hx hb hts hin11 hown hK hP 0 rfl rfl 15 (Nat.le_of_ble_eq_true rfl) hw_0 (fun _ h9 => h9) rfl dX11_feed_6 ?_
  refine lv_bipush (v := 20) hx hb dX11_feed_9 bp_20 ?_
  refine lv_iadd hx hb dX11_feed_11 ?_
  have b96 : iv 20 720 ((x0 1) + 20) := iv_add (hX 1 : iv 0 700 (x0 1)) ivk_20 (by decide) (by decide) (by decide) (by decide)
  have t97 : ((x0 1) + 20).toInt = (x0 1).toInt + 20 := iv_addc (hX 1 : iv 0 700 (x0 1)) (by decide) (by decide) (by decide)
  refine lv_sipush (v := 700) hx hb dX11_feed_12 (by decide) ?_
  refine lv_icmp_le (tgt := 20) hx hb dX11_feed_15 rfl (fun c98 => ?_) (fun c98 => ?_)
  · have b99 : iv 20 700 ((x0 1) + 20) := iv_leL c98 b96 ivk_700 (by decide) (by decide)
    refine lv_iconst (v := 0) hx hb dX11_feed_20 ic_0 ?_
    refine lv_istore (lv' := [(6, .int 0), (0, .ref m0), (1, .int p0), (2, .int p1), (3, .int p2), (4, .int p3), (5, .int p4)]) hx hb dX11_feed_21 hl (Nat.le_of_ble_eq_true rfl) rfl (fun ls hl => ?_)
    exact hJ23 _ (upd x0 0 0) q_tape 0 _ _ _ (Nat.lt_succ_self _) ((fI_u hX (k := 0) ((iv_w ivk_0 (by decide) (by decide))))) (hq_tape) ((iv_w ivk_0 (by decide) (by decide))) (ivk_0) (b99) ((show (x0 1).toInt = (x0 1).toInt + ((0 : Int32)).toInt from by rw [show ((0 : Int32)).toInt = 0 from by decide]; omega)) ((show (x0 1).toInt + 20 ≤ 700 from room_20 (hX 1 : iv 0 700 (x0 1)) c98)) ((show x0 10 = x0 10 from rfl)) ((show x0 21 = x0 21 from rfl)) ((show x0 25 = x0 25 from rfl)) ((show x0 23 = x0 23 from rfl)) (hP) (hD) hS (lv_sub hl [1, 2, 3, 4, 5, 6, 0] rfl)
  · have b100 : iv 701 720 ((x0 1) + 20) := iv_ltR (Int32.not_le.mp c98) ivk_700 b96 (by decide) (by decide)
    refine lv_iconst (v := (-1)) hx hb dX11_feed_18 ic_m1 ?_
    have hP9 := hP
    have hD9 := hD
    exact W.iret (v := (-1)) hx hb hr (fun t ht hW => ⟨⟨(-1), (), rfl, (iv_w ivk_m1 (by decide) (by decide)), upd x0 0 0, q_tape, (fI_u hX (k := 0) ((iv_w ivk_0 (by decide) (by decide)))), hq_tape, (show x0 10 = x0 10 from rfl), (show x0 21 = x0 21 from rfl), (show x0 25 = x0 25 from rfl), (show x0 23 = x0 23 from rfl), by rw [ht]; exact hP9, hD9⟩, hS.F ht⟩) hS.2.2 dX11_feed_19
def rm_s11_byteAt : Room := { frames := 0, cells := 0, slots := 0, locals := 0 }
set_option maxHeartbeats 4000000 in
set_option maxRecDepth 100000 in
theorem s11_byteAt (l : Launch) (dC : Nat → ClassId) (dI : Nat → Nat → Nat) (kB kI kJ kZ kC kS : ClassId) (sz : Nat) (m0 : Nat) (ra : Nat → Nat) (x0 : Nat → Int32) (q_tape : Nat → Int32) (p0 : Int32) (hX : fI lX11 hX11 x0) (hq_tape : fI (fun _ => 0) (fun _ => 255) q_tape) (hp0 : iv 0 700 p0) : Met l yX11_byteAt wsX11_byteAt rm_s11_byteAt (va_Pc [.ref m0, .int p0] (fun U => U.heap.size = sz ∧ va_P (dC, dI) vwCl [(m0, .inr (11, oX11 ra x0)), (ra 13, .inl (kI, 700, .inl q_tape))] U.heap ∧ kE dC dI kB kI kJ kZ kC kS U ∧ va_D (fun _ => True) [(m0, .inr (11, oX11 ra x0)), (ra 13, .inl (kI, 700, .inl q_tape))])) (va_Qi (fun (r : Int32) (_ : Unit) => r = byA q_tape (x0 3) p0 ∧ iv (-1) 255 r) (fun _ t => (byA q_tape (x0 3) p0 = -1 ∨ iv 0 699 p0) ∧ va_P (dC, dI) vwCl [(m0, .inr (11, oX11 ra x0)), (ra 13, .inl (kI, 700, .inl q_tape))] t.heap ∧ va_D (va_A [(m0, .inr (11, oX11 ra x0)), (ra 13, .inl (kI, 700, .inl q_tape))] sz) [(m0, .inr (11, oX11 ra x0)), (ra 13, .inl (kI, 700, .inl q_tape))]) (va_A [(m0, .inr (11, oX11 ra x0)), (ra 13, .inl (kI, 700, .inl q_tape))] sz)) 0 0 (va_A [(m0, .inr (11, oX11 ra x0)), (ra 13, .inl (kI, 700, .inl q_tape))] sz) := by
  refine Met.ofW (cc := cX11_byteAt) (maxL := 2) (ret := (some .int)) (by decide) rfl ?_
  intro p e s m args0 below meth c s₁ B hml hv
  obtain ⟨hargs, hsz, hP, hE, hD0⟩ := hv
  have hx := B.exec
  have hb := B.bytes
  have hr := B.returns
  have hts := atoms_spec (ws := wsX11_byteAt) B.pre
  have hown : s.vm.findClass RX11 = some m.cls := findClass_of_methodNamed B.named
  have hlocks := B.notSynchronized
  have hK := hE.1
  have hin11 : ∀ w ∈ wsX110, w ∈ wsX11_byteAt := fun _ h9 => List.mem_cons_of_mem _ (List.mem_append_right _ h9)
  have hw_0 := hts (.fieldLink RX11 148 "PathProberModel" "textSize" "I") (List.mem_of_getElem? (i := 1) rfl)
  have hw_1 := hts (.fieldLink RX11 66 "PathProberModel" "tape" "[I") (List.mem_of_getElem? (i := 2) rfl)
  subst hsz
  have hD := hD0.self (sz := s.heap.size)
  generalize hAe : va_A [(m0, .inr (11, oX11 ra x0)), (ra 13, .inl (kI, 700, .inl q_tape))] s.heap.size = A at hD ⊢
  have hA : ∀ q : Nat, s.heap.size ≤ q → A q := fun q h => by rw [← hAe]; exact Or.inr h
  have hS : va_S A s.heap s.heap [] := va_S.rf
  have hP : va_P (dC, dI) vwCl [(m0, .inr (11, oX11 ra x0)), (ra 13, .inl (kI, 700, .inl q_tape))] s.heap := hP
  have hl := lv_entry ([.ref m0, .int p0]) (n := 2) (Nat.le_of_ble_eq_true rfl)
  have hla : entryFrame m args0 2 = entryFrame m ([.ref m0, .int p0] : List Value).toArray 2 := by rw [hargs]
  rw [hla, lg_entry_eq]
  generalize (lg_sl ([.ref m0, .int p0]) ++ List.replicate (2 - (lg_sl ([.ref m0, .int p0])).length) Slot.unset).toArray = ls at hl ⊢
  have hl : lv_has ls 2 [(0, .ref m0), (1, .int p0)] := hl
  refine lv_iload_n hx hb dX11_byteAt_0 rfl (lv_at hl 1 rfl) ?_
  refine lv_aload_n hx hb dX11_byteAt_1 rfl (lv_at hl 0 rfl) ?_
  refine va_get (D := (dC, dI)) (ci := 11) (v := .int (x0 3)) (C := RX11) (T := TX11) (N := 61) hx hb hts hin11 hown hK hP 0 rfl rfl 17 (Nat.le_of_ble_eq_true rfl) hw_0 (fun _ h9 => h9) rfl dX11_byteAt_2 ?_
  refine lv_icmp_ge (tgt := 17) hx hb dX11_byteAt_5 rfl (fun c1 => ?_) (fun c1 => ?_)
  · refine lv_iconst (v := (-1)) hx hb dX11_byteAt_17 ic_m1 ?_
    have hP9 := hP
    have hD9 := hD
    exact W.iret (v := (-1)) hx hb hr (fun t ht hW => ⟨⟨(-1), (), rfl, ⟨byA_f c1, (iv_w ivk_m1 (by decide) (by decide))⟩, (show byA q_tape (x0 3) p0 = -1 ∨ iv 0 699 p0 from byA_699 (hX 3 : iv 0 700 (x0 3)) hp0), by rw [ht]; exact hP9, hD9⟩, hS.F ht⟩) hS.2.2 dX11_byteAt_18
  · have b2 : iv 0 699 p0 := iv_ltL (Int32.not_le.mp c1) hp0 (hX 3 : iv 0 700 (x0 3)) (by decide) (by decide)
    have b3 : iv 1 700 (x0 3) := iv_ltR (Int32.not_le.mp c1) hp0 (hX 3 : iv 0 700 (x0 3)) (by decide) (by decide)
    refine lv_aload_n hx hb dX11_byteAt_8 rfl (lv_at hl 0 rfl) ?_
    refine va_get (D := (dC, dI)) (ci := 11) (v := .ref (ra 13)) (C := RX11) (T := TX11) (N := 61) hx hb hts hin11 hown hK hP 0 rfl rfl 14 (Nat.le_of_ble_eq_true rfl) hw_1 (fun _ h9 => h9) rfl dX11_byteAt_9 ?_
    refine lv_iload_n hx hb dX11_byteAt_12 rfl (lv_at hl 1 rfl) ?_
    refine va_iald hx hb hK hP 1 1 rfl rfl (iv_in b2 (by decide) (by decide)) dX11_byteAt_13 ?_
    have b4 : iv 0 255 (q_tape p0.toNatClampNeg) := hq_tape _
    refine lv_goto (tgt := 18) hx hb dX11_byteAt_14 rfl ?_
    have hP9 := hP
    have hD9 := hD
    exact W.iret (v := q_tape p0.toNatClampNeg) hx hb hr (fun t ht hW => ⟨⟨q_tape p0.toNatClampNeg, (), rfl, ⟨byA_t (Int32.not_le.mp c1), (iv_w b4 (by decide) (by decide))⟩, (show byA q_tape (x0 3) p0 = -1 ∨ iv 0 699 p0 from byA_699 (iv_w b3 (by decide) (by decide)) hp0), by rw [ht]; exact hP9, hD9⟩, hS.F ht⟩) hS.2.2 dX11_byteAt_18
def rm_s11_stepOn : Room := { frames := 1, cells := 0, slots := 0, locals := 21 }
set_option maxHeartbeats 4000000 in
set_option maxRecDepth 100000 in
theorem s11_stepOn (l : Launch) (dC : Nat → ClassId) (dI : Nat → Nat → Nat) (kB kI kJ kZ kC kS : ClassId) (sz : Nat) (m0 : Nat) (ra : Nat → Nat) (x0 : Nat → Int32) (q_tape : Nat → Int32) (tT : Nat → Int32) (nN : Int32) (uS : StT) (hX : fI lX11 hX11 x0) (hq_tape : fI (fun _ => 0) (fun _ => 255) q_tape) (hRr : x0 3 = nN) (hSt : StpT tT nN x0 uS) (hTQ : tT = q_tape) : Met l yX11_stepOn wsX11_stepOn rm_s11_stepOn (va_Pc [.ref m0] (fun U => U.heap.size = sz ∧ va_P (dC, dI) vwCl [(m0, .inr (11, oX11 ra x0)), (ra 13, .inl (kI, 700, .inl q_tape))] U.heap ∧ kE dC dI kB kI kJ kZ kC kS U ∧ va_D (fun _ => True) [(m0, .inr (11, oX11 ra x0)), (ra 13, .inl (kI, 700, .inl q_tape))])) (va_Qv (fun (_ : Unit) => True) (fun _ t => ∃ (x0' : Nat → Int32), fI lX11 hX11 x0' ∧ ((x0 2).toInt ≤ (x0' 2).toInt) ∧ (x0' 3 = x0 3) ∧ (x0' 4 = 0 ∨ (x0 2).toInt + 1 ≤ (x0' 2).toInt) ∧ (RRd tT nN x0' (uS)) ∧ (x0' 1 = x0 1) ∧ (x0' 10 = x0 10) ∧ (x0' 21 = x0 21) ∧ (x0' 25 = x0 25) ∧ (x0' 23 = x0 23) ∧ va_P (dC, dI) vwCl [(m0, .inr (11, oX11 ra x0')), (ra 13, .inl (kI, 700, .inl q_tape))] t.heap ∧ va_D (va_A [(m0, .inr (11, oX11 ra x0)), (ra 13, .inl (kI, 700, .inl q_tape))] sz) [(m0, .inr (11, oX11 ra x0')), (ra 13, .inl (kI, 700, .inl q_tape))]) (va_A [(m0, .inr (11, oX11 ra x0)), (ra 13, .inl (kI, 700, .inl q_tape))] sz)) 0 0 (va_A [(m0, .inr (11, oX11 ra x0)), (ra 13, .inl (kI, 700, .inl q_tape))] sz) := by
  refine Met.ofW (cc := cX11_stepOn) (maxL := 2) (ret := none) (by decide) rfl ?_
  intro p e s m args0 below meth c s₁ B hml hv
  obtain ⟨hargs, hsz, hP, hE, hD0⟩ := hv
  have hx := B.exec
  have hb := B.bytes
  have hr := B.returns
  have hts := atoms_spec (ws := wsX11_stepOn) B.pre
  have hown : s.vm.findClass RX11 = some m.cls := findClass_of_methodNamed B.named
  have hlocks := B.notSynchronized
  have hK := hE.1
  have hin11 : ∀ w ∈ wsX110, w ∈ wsX11_stepOn := fun _ h9 => List.mem_cons_of_mem _ (List.mem_append_right _ h9)
  have hw_0 := hts (.fieldLink RX11 151 "PathProberModel" "at" "I") (List.mem_of_getElem? (i := 1) rfl)
  have hw_1 := hts (.fieldLink RX11 161 "PathProberModel" "token" "I") (List.mem_of_getElem? (i := 3) rfl)
  have hw_2 := hts (.fieldLink RX11 181 "PathProberModel" "stops" "I") (List.mem_of_getElem? (i := 10) rfl)
  have hw_3 := hts (.constant RX11 174 (100000)) (List.mem_of_getElem? (i := 5) rfl)
  have hw_4 := hts (.fieldLink RX11 171 "PathProberModel" "number" "I") (List.mem_of_getElem? (i := 4) rfl)
  have hw_5 := hts (.methodLink RX11 175 Lib.Math.min.name) (List.mem_of_getElem? (i := 6) rfl)
  have hw_6 := hts (.static Lib.Math.min.name) (List.mem_of_getElem? (i := 7) rfl)
  have hw_7 := hts (.initialized "java/lang/Math") (List.mem_of_getElem? (i := 8) rfl)
  have hw_8 := hts (.code Lib.Math.min.name Lib.Math.min.code 2 (some .int)) (List.mem_of_getElem? (i := 9) rfl)
  have hw_9 := hts (.fieldLink RX11 158 "PathProberModel" "begins" "I") (List.mem_of_getElem? (i := 2) rfl)
  subst hsz
  have hD := hD0.self (sz := s.heap.size)
  generalize hAe : va_A [(m0, .inr (11, oX11 ra x0)), (ra 13, .inl (kI, 700, .inl q_tape))] s.heap.size = A at hD ⊢
  have hA : ∀ q : Nat, s.heap.size ≤ q → A q := fun q h => by rw [← hAe]; exact Or.inr h
  have hS : va_S A s.heap s.heap [] := va_S.rf
  have hP : va_P (dC, dI) vwCl [(m0, .inr (11, oX11 ra x0)), (ra 13, .inl (kI, 700, .inl q_tape))] s.heap := hP
  have hl := lv_entry ([.ref m0]) (n := 2) (Nat.le_of_ble_eq_true rfl)
  have hla : entryFrame m args0 2 = entryFrame m ([.ref m0] : List Value).toArray 2 := by rw [hargs]
  rw [hla, lg_entry_eq]
  generalize (lg_sl ([.ref m0]) ++ List.replicate (2 - (lg_sl ([.ref m0])).length) Slot.unset).toArray = ls at hl ⊢
  have hl : lv_has ls 2 [(0, .ref m0)] := hl
  have hJ123 : ∀ (n : Nat) (y123_0 : Nat → Int32) (v123_loc1 : Int32) (H : Heap) (locs : List Loc) (ls : Array Slot), (700 - (y123_0 2).toInt).toNat < n → fI lX11 hX11 y123_0 → iv 48 57 v123_loc1 → iv 0 699 (y123_0 6) → ((x0 2).toInt + 1 ≤ (y123_0 2).toInt ∨ ¬ isDg (byA q_tape (x0 3) (y123_0 2)) = 0) → (R123 tT nN x0 y123_0) → ((x0 2).toInt ≤ (y123_0 2).toInt) → (y123_0 3 = x0 3) → (y123_0 1 = x0 1) → (y123_0 10 = x0 10) → (y123_0 21 = x0 21) → (y123_0 25 = x0 25) → (y123_0 23 = x0 23) → va_P (dC, dI) vwCl [(m0, .inr (11, oX11 ra y123_0)), (ra 13, .inl (kI, 700, .inl q_tape))] H → va_D A [(m0, .inr (11, oX11 ra y123_0)), (ra 13, .inl (kI, 700, .inl q_tape))] → va_S A s.heap H locs → lv_has ls 2 [(0, .ref m0), (1, .int v123_loc1)] → W p l e (headSpec wsX11_stepOn rm_s11_stepOn).room s m args0 below meth c H locs (0) (0) (MQ below (va_Qv (fun (_ : Unit) => True) (fun _ t => ∃ (x0' : Nat → Int32), fI lX11 hX11 x0' ∧ ((x0 2).toInt ≤ (x0' 2).toInt) ∧ (x0' 3 = x0 3) ∧ (x0' 4 = 0 ∨ (x0 2).toInt + 1 ≤ (x0' 2).toInt) ∧ (RRd tT nN x0' (uS)) ∧ (x0' 1 = x0 1) ∧ (x0' 10 = x0 10) ∧ (x0' 21 = x0 21) ∧ (x0' 25 = x0 25) ∧ (x0' 23 = x0 23) ∧ va_P (dC, dI) vwCl [(m0, .inr (11, oX11 ra x0')), (ra 13, .inl (kI, 700, .inl q_tape))] t.heap ∧ va_D A [(m0, .inr (11, oX11 ra x0')), (ra 13, .inl (kI, 700, .inl q_tape))]) A) args0 s 0 0 A) (F0 m 123 ls []) := by
    intro n
    induction n with
    | zero => intro y123_0 v123_loc1 H locs ls hm123; exact absurd hm123 (Nat.not_lt_zero _)
    | succ n ih123 =>
      intro y123_0 v123_loc1 H locs ls hm123 hI123_0 h123_2 h123_3 hsx_123 hk_123 hat_123 hts_123 htp_123 hfp_123 hnd_123 hnt_123 hhm_123 hP hD hS hl
      refine lv_aload_n hx hb dX11_stepOn_123 rfl (lv_at hl 0 rfl) ?_
      refine lv_aload_n hx hb dX11_stepOn_124 rfl (lv_at hl 0 rfl) ?_
      refine va_get (D := (dC, dI)) (ci := 11) (v := .int (y123_0 2)) (C := RX11) (T := TX11) (N := 61) hx hb hts hin11 hown hK hP 0 rfl rfl 16 (Nat.le_of_ble_eq_true rfl) hw_0 (fun _ h9 => h9) rfl dX11_stepOn_125 ?_
      obtain ⟨hPc, hDc, hFc, hJn⟩ := cl_a (wc := [(m0, .inr (11, oX11 ra y123_0)), (ra 13, .inl (kI, 700, .inl q_tape))]) (wr := []) hP hD hS hA [0, 1] [] rfl rfl (by decide +kernel)
      refine va_calli (va_runV (As := [.int (y123_0 2)]) (rest := []) ⟨hx, hb, hml, hown, hts⟩ (s11_byteAt l dC dI kB kI kJ kZ kC kS H.size m0 ra y123_0 q_tape (y123_0 2) (hI123_0) (hq_tape) ((hI123_0 2 : iv 0 700 (y123_0 2)))) (cwV 1 hts gX11_stepOn_X11_byteAt rfl rfl rfl (by decide +kernel) ⟨Nat.le_of_ble_eq_true rfl, Nat.le_of_ble_eq_true rfl⟩) ⟨fun a U g mk q => by obtain ⟨q0, q1, qP, qE, qD⟩ := q; exact ⟨q0, q1, qP, kE_call qE, qD⟩, va_recv hK hP (ci := 11) (q0 := 0) rfl rfl, fun U hU hW => ⟨rfl, by rw [hU], by rw [hU]; exact hPc, kE_warm hW hE, hDc.weaken (fun _ _ _ _ => trivial)⟩⟩ rfl rfl hl.1 rfl (lv_room (Nat.le_of_ble_eq_true rfl)) dX11_stepOn_128 ⟨Nat.le_of_ble_eq_true rfl, Nat.le_of_ble_eq_true rfl⟩) hS (fun q _ h => hFc q h) hFc (fun r1 u t H locs ht hvm w2 hB hz1 hk1 hS => ?_)
      obtain ⟨hq3, hP1, hD1⟩ := hB
      try dsimp only at w2
      obtain ⟨hPa, hDa⟩ := hJn (w1 := [(m0, .inr (11, oX11 ra y123_0)), (ra 13, .inl (kI, 700, .inl q_tape))]) hk1 ht hP1 hD1
      clear hP hD hPc hDc hFc hJn hP1 hD1 hk1
      have hP : va_P (dC, dI) vwCl [(m0, .inr (11, oX11 ra y123_0)), (ra 13, .inl (kI, 700, .inl q_tape))] H := hPa
      have hD : va_D A [(m0, .inr (11, oX11 ra y123_0)), (ra 13, .inl (kI, 700, .inl q_tape))] := hDa
      clear hPa hDa
      refine W.widen (k := 0) (n := 0) (Nat.le_of_ble_eq_true rfl) (Nat.le_of_ble_eq_true rfl) ?_
      obtain ⟨w2, b4⟩ := w2
      subst w2
      obtain ⟨hPc, hDc, hFc, hJn⟩ := cl_a (wc := []) (wr := [(m0, .inr (11, oX11 ra y123_0)), (ra 13, .inl (kI, 700, .inl q_tape))]) hP hD hS hA [] [0, 1] rfl rfl (by decide +kernel)
      refine va_calli (va_runS (As := [.int (byA q_tape (y123_0 3) (y123_0 2))]) (rest := []) ⟨hx, hb, hml, hown, hts⟩ (s11_isDigit l dC dI kB kI kJ kZ kC kS H.size (byA q_tape (y123_0 3) (y123_0 2))) (va_cwS 1 hts gX11_stepOn_X11_isDigit rfl rfl rfl (by decide +kernel) ⟨Nat.le_of_ble_eq_true rfl, Nat.le_of_ble_eq_true rfl⟩) ⟨fun a U g mk q => by obtain ⟨q0, q1, qP, qE, qD⟩ := q; exact ⟨q0, q1, qP, kE_call qE, qD⟩, fun U hU hW => ⟨rfl, by rw [hU], by rw [hU]; exact hPc, kE_warm hW hE, hDc.weaken (fun _ _ _ _ => trivial)⟩⟩ rfl rfl hl.1 rfl (lv_room (Nat.le_of_ble_eq_true rfl)) dX11_stepOn_131 ⟨Nat.le_of_ble_eq_true rfl, Nat.le_of_ble_eq_true rfl⟩) hS (fun q _ h => hFc q h) hFc (fun r5 u t H locs ht hvm w6 hB hz1 hk1 hS => ?_)
      obtain ⟨hP1, hD1⟩ := hB
      try dsimp only at w6
      obtain ⟨hPa, hDa⟩ := hJn (w1 := []) hk1 ht hP1 hD1
      clear hP hD hPc hDc hFc hJn hP1 hD1 hk1
      have hP : va_P (dC, dI) vwCl [(m0, .inr (11, oX11 ra y123_0)), (ra 13, .inl (kI, 700, .inl q_tape))] H := hPa
      have hD : va_D A [(m0, .inr (11, oX11 ra y123_0)), (ra 13, .inl (kI, 700, .inl q_tape))] := hDa
      clear hPa hDa
      refine W.widen (k := 0) (n := 0) (Nat.le_of_ble_eq_true rfl) (Nat.le_of_ble_eq_true rfl) ?_
      obtain ⟨w6, b7⟩ := w6
      subst w6
      refine lv_if_eq (tgt := 178) hx hb dX11_stepOn_134 rfl (fun c8 => ?_) (fun c8 => ?_)
      · have b9 : iv 0 0 (isDg (byA q_tape (y123_0 3) (y123_0 2))) := iv_eqL c8 ivk_0
        have hst10 : (x0 2).toInt + 1 ≤ (y123_0 2).toInt := hsx_123.resolve_right (fun w => w (by have q := c8; rw [hts_123] at q; exact q))
        refine lv_aload_n hx hb dX11_stepOn_178 rfl (lv_at hl 0 rfl) ?_
        refine lv_iconst (v := 2) hx hb dX11_stepOn_179 ic_2 ?_
        refine va_put (D := (dC, dI)) (ci := 11) (v := .int 2) (ty := .int) (C := RX11) (T := TX11) (N := 61) hx hb hts hin11 tyX11 tyX11_ok nmX11 hown hK hP hD hS 0 rfl rfl 18 (by decide) hw_1 (fun _ h9 => h9) rfl (by decide +kernel) rfl rfl (Nat.le_of_ble_eq_true rfl) dX11_stepOn_180 (fun H locs hPa hDa hS => ?_)
        clear hP hD
        have hP : va_P (dC, dI) vwCl [(m0, .inr (11, oX11 ra (upd y123_0 4 2))), (ra 13, .inl (kI, 700, .inl q_tape))] H := hPa
        have hD : va_D A [(m0, .inr (11, oX11 ra (upd y123_0 4 2))), (ra 13, .inl (kI, 700, .inl q_tape))] := hDa
        clear hPa hDa
        refine lv_goto (tgt := 211) hx hb dX11_stepOn_183 rfl ?_
        refine lv_aload_n hx hb dX11_stepOn_211 rfl (lv_at hl 0 rfl) ?_
        refine lv_aload_n hx hb dX11_stepOn_212 rfl (lv_at hl 0 rfl) ?_
        refine va_get (D := (dC, dI)) (ci := 11) (v := .int (y123_0 2)) (C := RX11) (T := TX11) (N := 61) hx hb hts hin11 hown hK hP 0 rfl rfl 16 (Nat.le_of_ble_eq_true rfl) hw_0 (fun _ h9 => h9) rfl dX11_stepOn_213 ?_
        refine va_put (D := (dC, dI)) (ci := 11) (v := .int (y123_0 2)) (ty := .int) (C := RX11) (T := TX11) (N := 61) hx hb hts hin11 tyX11 tyX11_ok nmX11 hown hK hP hD hS 0 rfl rfl 21 (by decide) hw_2 (fun _ h9 => h9) rfl (by decide +kernel) rfl rfl (Nat.le_of_ble_eq_true rfl) dX11_stepOn_216 (fun H locs hPa hDa hS => ?_)
        clear hP hD
        have hP : va_P (dC, dI) vwCl [(m0, .inr (11, oX11 ra (upd (upd y123_0 4 2) 7 (y123_0 2)))), (ra 13, .inl (kI, 700, .inl q_tape))] H := hPa
        have hD : va_D A [(m0, .inr (11, oX11 ra (upd (upd y123_0 4 2) 7 (y123_0 2)))), (ra 13, .inl (kI, 700, .inl q_tape))] := hDa
        clear hPa hDa
        have hP9 := hP
        have hD9 := hD
        exact W.vret hx hb hr (fun t ht hW => ⟨⟨(), rfl, trivial, upd (upd y123_0 4 2) 7 (y123_0 2), (fI_u (fI_u hI123_0 (k := 4) ((iv_w ivk_2 (by decide) (by decide)))) (k := 7) ((hI123_0 2 : iv 0 700 (y123_0 2)))), (show (x0 2).toInt ≤ (y123_0 2).toInt from by omega), (show y123_0 3 = x0 3 from hts_123), (show 2 = 0 ∨ (x0 2).toInt + 1 ≤ (y123_0 2).toInt from Or.inr (by omega)), (by subst hTQ; exact rs_d hRr hSt (hX 2 : iv 0 700 (x0 2)) hk_123 (iv_w h123_3 (by decide) (by decide)) (hI123_0 2 : iv 0 700 (y123_0 2)) c8), (show y123_0 1 = x0 1 from htp_123), (show y123_0 10 = x0 10 from hfp_123), (show y123_0 21 = x0 21 from hnd_123), (show y123_0 25 = x0 25 from hnt_123), (show y123_0 23 = x0 23 from hhm_123), by rw [ht]; exact hP9, hD9⟩, hS.F ht⟩) hS.2.2 dX11_stepOn_219
      · have b11 : iv 1 1 (isDg (byA q_tape (y123_0 3) (y123_0 2))) := iv_neLo c8 b7 ivk_0 (by decide) (by decide)
        have b12 : iv 48 57 (byA q_tape (y123_0 3) (y123_0 2)) := isDg_iv (iv_ne b11 ivk_0 (by decide))
        have b13 : iv 0 699 (y123_0 2) := (hq3).resolve_left (iv_ne b12 ivk_m1 (by decide))
        refine lv_aload_n hx hb dX11_stepOn_137 rfl (lv_at hl 0 rfl) ?_
        refine lv_ldc hx hb hown hw_3 dX11_stepOn_138 ?_
        refine lv_bipush (v := 10) hx hb dX11_stepOn_140 bp_10 ?_
        refine lv_aload_n hx hb dX11_stepOn_142 rfl (lv_at hl 0 rfl) ?_
        refine va_get (D := (dC, dI)) (ci := 11) (v := .int (y123_0 5)) (C := RX11) (T := TX11) (N := 61) hx hb hts hin11 hown hK hP 0 rfl rfl 19 (Nat.le_of_ble_eq_true rfl) hw_4 (fun _ h9 => h9) rfl dX11_stepOn_143 ?_
        refine lv_imul hx hb dX11_stepOn_146 ?_
        refine lv_aload_n hx hb dX11_stepOn_147 rfl (lv_at hl 0 rfl) ?_
        refine lv_aload_n hx hb dX11_stepOn_148 rfl (lv_at hl 0 rfl) ?_
        refine va_get (D := (dC, dI)) (ci := 11) (v := .int (y123_0 2)) (C := RX11) (T := TX11) (N := 61) hx hb hts hin11 hown hK hP 0 rfl rfl 16 (Nat.le_of_ble_eq_true rfl) hw_0 (fun _ h9 => h9) rfl dX11_stepOn_149 ?_
        obtain ⟨hPc, hDc, hFc, hJn⟩ := cl_a (wc := [(m0, .inr (11, oX11 ra y123_0)), (ra 13, .inl (kI, 700, .inl q_tape))]) (wr := []) hP hD hS hA [0, 1] [] rfl rfl (by decide +kernel)
        refine va_calli (va_runV (As := [.int (y123_0 2)]) (rest := [.int (10 * (y123_0 5)), .int 100000, .ref m0]) ⟨hx, hb, hml, hown, hts⟩ (s11_byteAt l dC dI kB kI kJ kZ kC kS H.size m0 ra y123_0 q_tape (y123_0 2) (hI123_0) (hq_tape) ((iv_w b13 (by decide) (by decide)))) (cwV 1 hts gX11_stepOn_X11_byteAt rfl rfl rfl (by decide +kernel) ⟨Nat.le_of_ble_eq_true rfl, Nat.le_of_ble_eq_true rfl⟩) ⟨fun a U g mk q => by obtain ⟨q0, q1, qP, qE, qD⟩ := q; exact ⟨q0, q1, qP, kE_call qE, qD⟩, va_recv hK hP (ci := 11) (q0 := 0) rfl rfl, fun U hU hW => ⟨rfl, by rw [hU], by rw [hU]; exact hPc, kE_warm hW hE, hDc.weaken (fun _ _ _ _ => trivial)⟩⟩ rfl rfl hl.1 rfl (lv_room (Nat.le_of_ble_eq_true rfl)) dX11_stepOn_152 ⟨Nat.le_of_ble_eq_true rfl, Nat.le_of_ble_eq_true rfl⟩) hS (fun q _ h => hFc q h) hFc (fun r14 u t H locs ht hvm w15 hB hz1 hk1 hS => ?_)
        obtain ⟨hq16, hP1, hD1⟩ := hB
        try dsimp only at w15
        obtain ⟨hPa, hDa⟩ := hJn (w1 := [(m0, .inr (11, oX11 ra y123_0)), (ra 13, .inl (kI, 700, .inl q_tape))]) hk1 ht hP1 hD1
        clear hP hD hPc hDc hFc hJn hP1 hD1 hk1
        have hP : va_P (dC, dI) vwCl [(m0, .inr (11, oX11 ra y123_0)), (ra 13, .inl (kI, 700, .inl q_tape))] H := hPa
        have hD : va_D A [(m0, .inr (11, oX11 ra y123_0)), (ra 13, .inl (kI, 700, .inl q_tape))] := hDa
        clear hPa hDa
        refine W.widen (k := 0) (n := 0) (Nat.le_of_ble_eq_true rfl) (Nat.le_of_ble_eq_true rfl) ?_
        obtain ⟨w15, b17⟩ := w15
        subst w15
        refine lv_iadd hx hb dX11_stepOn_155 ?_
        refine lv_bipush (v := 48) hx hb dX11_stepOn_156 bp_48 ?_
        refine lv_isub hx hb dX11_stepOn_158 ?_
        refine va_mmin hx hb (by rw [hml]; exact hl.1.symm) hown hw_5 hw_6 hw_7 hw_8 (Nat.le_of_ble_eq_true rfl) (Nat.le_of_ble_eq_true rfl) (Nat.le_of_ble_eq_true rfl) (Nat.le_of_ble_eq_true rfl) dX11_stepOn_159 ?_
        refine lv_topi (fun z18 e19 => ?_)
        refine va_put (D := (dC, dI)) (ci := 11) (v := .int z18) (ty := .int) (C := RX11) (T := TX11) (N := 61) hx hb hts hin11 tyX11 tyX11_ok nmX11 hown hK hP hD hS 0 rfl rfl 19 (by decide) hw_4 (fun _ h9 => h9) rfl (by decide +kernel) rfl rfl (Nat.le_of_ble_eq_true rfl) dX11_stepOn_162 (fun H locs hPa hDa hS => ?_)
        clear hP hD
        have hP : va_P (dC, dI) vwCl [(m0, .inr (11, oX11 ra (upd y123_0 5 z18))), (ra 13, .inl (kI, 700, .inl q_tape))] H := hPa
        have hD : va_D A [(m0, .inr (11, oX11 ra (upd y123_0 5 z18))), (ra 13, .inl (kI, 700, .inl q_tape))] := hDa
        clear hPa hDa
        refine lv_aload_n hx hb dX11_stepOn_165 rfl (lv_at hl 0 rfl) ?_
        refine lv_dup hx hb dX11_stepOn_166 rfl ?_
        refine va_get (D := (dC, dI)) (ci := 11) (v := .int (y123_0 2)) (C := RX11) (T := TX11) (N := 61) hx hb hts hin11 hown hK hP 0 rfl rfl 16 (Nat.le_of_ble_eq_true rfl) hw_0 (fun _ h9 => h9) rfl dX11_stepOn_167 ?_
        refine lv_iconst (v := 1) hx hb dX11_stepOn_170 ic_1 ?_
        refine lv_iadd hx hb dX11_stepOn_171 ?_
        have b20 : iv 1 700 ((y123_0 2) + 1) := iv_add b13 ivk_1 (by decide) (by decide) (by decide) (by decide)
        have t21 : ((y123_0 2) + 1).toInt = (y123_0 2).toInt + 1 := iv_addc b13 (by decide) (by decide) (by decide)
        refine va_put (D := (dC, dI)) (ci := 11) (v := .int ((y123_0 2) + 1)) (ty := .int) (C := RX11) (T := TX11) (N := 61) hx hb hts hin11 tyX11 tyX11_ok nmX11 hown hK hP hD hS 0 rfl rfl 16 (by decide) hw_0 (fun _ h9 => h9) rfl (by decide +kernel) rfl rfl (Nat.le_of_ble_eq_true rfl) dX11_stepOn_172 (fun H locs hPa hDa hS => ?_)
        clear hP hD
        have hP : va_P (dC, dI) vwCl [(m0, .inr (11, oX11 ra (upd (upd y123_0 5 z18) 2 ((y123_0 2) + 1)))), (ra 13, .inl (kI, 700, .inl q_tape))] H := hPa
        have hD : va_D A [(m0, .inr (11, oX11 ra (upd (upd y123_0 5 z18) 2 ((y123_0 2) + 1)))), (ra 13, .inl (kI, 700, .inl q_tape))] := hDa
        clear hPa hDa
        refine lv_goto (tgt := 123) hx hb dX11_stepOn_175 rfl ?_
        exact ih123 (upd (upd y123_0 5 z18) 2 ((y123_0 2) + 1)) v123_loc1 _ _ _ (ms_up (c := 1) (d := 0) b13 hm123 (by decide) (iv_addc b13 (by decide) (by decide) (by decide)) (by decide) rfl) ((fI_u (fI_u hI123_0 (k := 5) ((iv_t z18))) (k := 2) ((iv_w b20 (by decide) (by decide))))) (h123_2) (h123_3) ((show (x0 2).toInt + 1 ≤ ((y123_0 2) + 1).toInt ∨ ¬ isDg (byA q_tape (x0 3) ((y123_0 2) + 1)) = 0 from Or.inl (by have q := hat_123; omega))) ((by subst hTQ; exact rs_123s hRr hk_123 (iv_w h123_3 (by decide) (by decide)) (iv_w b13 (by decide) (by decide)) c8 e19)) ((show (x0 2).toInt ≤ ((y123_0 2) + 1).toInt from by omega)) ((show y123_0 3 = x0 3 from hts_123)) ((show y123_0 1 = x0 1 from htp_123)) ((show y123_0 10 = x0 10 from hfp_123)) ((show y123_0 21 = x0 21 from hnd_123)) ((show y123_0 25 = x0 25 from hnt_123)) ((show y123_0 23 = x0 23 from hhm_123)) (hP) (hD) hS (lv_sub hl [0, 1] rfl)
  have hJ76 : ∀ (n : Nat) (y76_0 : Nat → Int32) (v76_loc1 : Int32) (H : Heap) (locs : List Loc) (ls : Array Slot), (700 - (y76_0 2).toInt).toNat < n → fI lX11 hX11 y76_0 → iv 97 122 v76_loc1 → iv 0 699 (y76_0 6) → ((x0 2).toInt + 1 ≤ (y76_0 2).toInt ∨ ¬ isLt (byA q_tape (x0 3) (y76_0 2)) = 0) → (R76 tT nN x0 y76_0) → ((x0 2).toInt ≤ (y76_0 2).toInt) → (y76_0 3 = x0 3) → (y76_0 1 = x0 1) → (y76_0 10 = x0 10) → (y76_0 21 = x0 21) → (y76_0 25 = x0 25) → (y76_0 23 = x0 23) → va_P (dC, dI) vwCl [(m0, .inr (11, oX11 ra y76_0)), (ra 13, .inl (kI, 700, .inl q_tape))] H → va_D A [(m0, .inr (11, oX11 ra y76_0)), (ra 13, .inl (kI, 700, .inl q_tape))] → va_S A s.heap H locs → lv_has ls 2 [(0, .ref m0), (1, .int v76_loc1)] → W p l e (headSpec wsX11_stepOn rm_s11_stepOn).room s m args0 below meth c H locs (0) (0) (MQ below (va_Qv (fun (_ : Unit) => True) (fun _ t => ∃ (x0' : Nat → Int32), fI lX11 hX11 x0' ∧ ((x0 2).toInt ≤ (x0' 2).toInt) ∧ (x0' 3 = x0 3) ∧ (x0' 4 = 0 ∨ (x0 2).toInt + 1 ≤ (x0' 2).toInt) ∧ (RRd tT nN x0' (uS)) ∧ (x0' 1 = x0 1) ∧ (x0' 10 = x0 10) ∧ (x0' 21 = x0 21) ∧ (x0' 25 = x0 25) ∧ (x0' 23 = x0 23) ∧ va_P (dC, dI) vwCl [(m0, .inr (11, oX11 ra x0')), (ra 13, .inl (kI, 700, .inl q_tape))] t.heap ∧ va_D A [(m0, .inr (11, oX11 ra x0')), (ra 13, .inl (kI, 700, .inl q_tape))]) A) args0 s 0 0 A) (F0 m 76 ls []) := by
    intro n
    induction n with
    | zero => intro y76_0 v76_loc1 H locs ls hm76; exact absurd hm76 (Nat.not_lt_zero _)
    | succ n ih76 =>
      intro y76_0 v76_loc1 H locs ls hm76 hI76_0 h76_2 h76_3 hsx_76 hk_76 hat_76 hts_76 htp_76 hfp_76 hnd_76 hnt_76 hhm_76 hP hD hS hl
      refine lv_aload_n hx hb dX11_stepOn_76 rfl (lv_at hl 0 rfl) ?_
      refine lv_aload_n hx hb dX11_stepOn_77 rfl (lv_at hl 0 rfl) ?_
      refine va_get (D := (dC, dI)) (ci := 11) (v := .int (y76_0 2)) (C := RX11) (T := TX11) (N := 61) hx hb hts hin11 hown hK hP 0 rfl rfl 16 (Nat.le_of_ble_eq_true rfl) hw_0 (fun _ h9 => h9) rfl dX11_stepOn_78 ?_
      obtain ⟨hPc, hDc, hFc, hJn⟩ := cl_a (wc := [(m0, .inr (11, oX11 ra y76_0)), (ra 13, .inl (kI, 700, .inl q_tape))]) (wr := []) hP hD hS hA [0, 1] [] rfl rfl (by decide +kernel)
      refine va_calli (va_runV (As := [.int (y76_0 2)]) (rest := []) ⟨hx, hb, hml, hown, hts⟩ (s11_byteAt l dC dI kB kI kJ kZ kC kS H.size m0 ra y76_0 q_tape (y76_0 2) (hI76_0) (hq_tape) ((hI76_0 2 : iv 0 700 (y76_0 2)))) (cwV 1 hts gX11_stepOn_X11_byteAt rfl rfl rfl (by decide +kernel) ⟨Nat.le_of_ble_eq_true rfl, Nat.le_of_ble_eq_true rfl⟩) ⟨fun a U g mk q => by obtain ⟨q0, q1, qP, qE, qD⟩ := q; exact ⟨q0, q1, qP, kE_call qE, qD⟩, va_recv hK hP (ci := 11) (q0 := 0) rfl rfl, fun U hU hW => ⟨rfl, by rw [hU], by rw [hU]; exact hPc, kE_warm hW hE, hDc.weaken (fun _ _ _ _ => trivial)⟩⟩ rfl rfl hl.1 rfl (lv_room (Nat.le_of_ble_eq_true rfl)) dX11_stepOn_81 ⟨Nat.le_of_ble_eq_true rfl, Nat.le_of_ble_eq_true rfl⟩) hS (fun q _ h => hFc q h) hFc (fun r22 u t H locs ht hvm w23 hB hz1 hk1 hS => ?_)
      obtain ⟨hq24, hP1, hD1⟩ := hB
      try dsimp only at w23
      obtain ⟨hPa, hDa⟩ := hJn (w1 := [(m0, .inr (11, oX11 ra y76_0)), (ra 13, .inl (kI, 700, .inl q_tape))]) hk1 ht hP1 hD1
      clear hP hD hPc hDc hFc hJn hP1 hD1 hk1
      have hP : va_P (dC, dI) vwCl [(m0, .inr (11, oX11 ra y76_0)), (ra 13, .inl (kI, 700, .inl q_tape))] H := hPa
      have hD : va_D A [(m0, .inr (11, oX11 ra y76_0)), (ra 13, .inl (kI, 700, .inl q_tape))] := hDa
      clear hPa hDa
      refine W.widen (k := 0) (n := 0) (Nat.le_of_ble_eq_true rfl) (Nat.le_of_ble_eq_true rfl) ?_
      obtain ⟨w23, b25⟩ := w23
      subst w23
      obtain ⟨hPc, hDc, hFc, hJn⟩ := cl_a (wc := []) (wr := [(m0, .inr (11, oX11 ra y76_0)), (ra 13, .inl (kI, 700, .inl q_tape))]) hP hD hS hA [] [0, 1] rfl rfl (by decide +kernel)
      refine va_calli (va_runS (As := [.int (byA q_tape (y76_0 3) (y76_0 2))]) (rest := []) ⟨hx, hb, hml, hown, hts⟩ (s11_isLetter l dC dI kB kI kJ kZ kC kS H.size (byA q_tape (y76_0 3) (y76_0 2))) (va_cwS 1 hts gX11_stepOn_X11_isLetter rfl rfl rfl (by decide +kernel) ⟨Nat.le_of_ble_eq_true rfl, Nat.le_of_ble_eq_true rfl⟩) ⟨fun a U g mk q => by obtain ⟨q0, q1, qP, qE, qD⟩ := q; exact ⟨q0, q1, qP, kE_call qE, qD⟩, fun U hU hW => ⟨rfl, by rw [hU], by rw [hU]; exact hPc, kE_warm hW hE, hDc.weaken (fun _ _ _ _ => trivial)⟩⟩ rfl rfl hl.1 rfl (lv_room (Nat.le_of_ble_eq_true rfl)) dX11_stepOn_84 ⟨Nat.le_of_ble_eq_true rfl, Nat.le_of_ble_eq_true rfl⟩) hS (fun q _ h => hFc q h) hFc (fun r26 u t H locs ht hvm w27 hB hz1 hk1 hS => ?_)
      obtain ⟨hP1, hD1⟩ := hB
      try dsimp only at w27
      obtain ⟨hPa, hDa⟩ := hJn (w1 := []) hk1 ht hP1 hD1
      clear hP hD hPc hDc hFc hJn hP1 hD1 hk1
      have hP : va_P (dC, dI) vwCl [(m0, .inr (11, oX11 ra y76_0)), (ra 13, .inl (kI, 700, .inl q_tape))] H := hPa
      have hD : va_D A [(m0, .inr (11, oX11 ra y76_0)), (ra 13, .inl (kI, 700, .inl q_tape))] := hDa
      clear hPa hDa
      refine W.widen (k := 0) (n := 0) (Nat.le_of_ble_eq_true rfl) (Nat.le_of_ble_eq_true rfl) ?_
      obtain ⟨w27, b28⟩ := w27
      subst w27
      refine lv_if_eq (tgt := 103) hx hb dX11_stepOn_87 rfl (fun c29 => ?_) (fun c29 => ?_)
      · have b30 : iv 0 0 (isLt (byA q_tape (y76_0 3) (y76_0 2))) := iv_eqL c29 ivk_0
        have hst31 : (x0 2).toInt + 1 ≤ (y76_0 2).toInt := hsx_76.resolve_right (fun w => w (by have q := c29; rw [hts_76] at q; exact q))
        refine lv_aload_n hx hb dX11_stepOn_103 rfl (lv_at hl 0 rfl) ?_
        refine lv_iconst (v := 1) hx hb dX11_stepOn_104 ic_1 ?_
        refine va_put (D := (dC, dI)) (ci := 11) (v := .int 1) (ty := .int) (C := RX11) (T := TX11) (N := 61) hx hb hts hin11 tyX11 tyX11_ok nmX11 hown hK hP hD hS 0 rfl rfl 18 (by decide) hw_1 (fun _ h9 => h9) rfl (by decide +kernel) rfl rfl (Nat.le_of_ble_eq_true rfl) dX11_stepOn_105 (fun H locs hPa hDa hS => ?_)
        clear hP hD
        have hP : va_P (dC, dI) vwCl [(m0, .inr (11, oX11 ra (upd y76_0 4 1))), (ra 13, .inl (kI, 700, .inl q_tape))] H := hPa
        have hD : va_D A [(m0, .inr (11, oX11 ra (upd y76_0 4 1))), (ra 13, .inl (kI, 700, .inl q_tape))] := hDa
        clear hPa hDa
        refine lv_goto (tgt := 211) hx hb dX11_stepOn_108 rfl ?_
        refine lv_aload_n hx hb dX11_stepOn_211 rfl (lv_at hl 0 rfl) ?_
        refine lv_aload_n hx hb dX11_stepOn_212 rfl (lv_at hl 0 rfl) ?_
        refine va_get (D := (dC, dI)) (ci := 11) (v := .int (y76_0 2)) (C := RX11) (T := TX11) (N := 61) hx hb hts hin11 hown hK hP 0 rfl rfl 16 (Nat.le_of_ble_eq_true rfl) hw_0 (fun _ h9 => h9) rfl dX11_stepOn_213 ?_
        refine va_put (D := (dC, dI)) (ci := 11) (v := .int (y76_0 2)) (ty := .int) (C := RX11) (T := TX11) (N := 61) hx hb hts hin11 tyX11 tyX11_ok nmX11 hown hK hP hD hS 0 rfl rfl 21 (by decide) hw_2 (fun _ h9 => h9) rfl (by decide +kernel) rfl rfl (Nat.le_of_ble_eq_true rfl) dX11_stepOn_216 (fun H locs hPa hDa hS => ?_)
        clear hP hD
        have hP : va_P (dC, dI) vwCl [(m0, .inr (11, oX11 ra (upd (upd y76_0 4 1) 7 (y76_0 2)))), (ra 13, .inl (kI, 700, .inl q_tape))] H := hPa
        have hD : va_D A [(m0, .inr (11, oX11 ra (upd (upd y76_0 4 1) 7 (y76_0 2)))), (ra 13, .inl (kI, 700, .inl q_tape))] := hDa
        clear hPa hDa
        have hP9 := hP
        have hD9 := hD
        exact W.vret hx hb hr (fun t ht hW => ⟨⟨(), rfl, trivial, upd (upd y76_0 4 1) 7 (y76_0 2), (fI_u (fI_u hI76_0 (k := 4) ((iv_w ivk_1 (by decide) (by decide)))) (k := 7) ((hI76_0 2 : iv 0 700 (y76_0 2)))), (show (x0 2).toInt ≤ (y76_0 2).toInt from by omega), (show y76_0 3 = x0 3 from hts_76), (show 1 = 0 ∨ (x0 2).toInt + 1 ≤ (y76_0 2).toInt from Or.inr (by omega)), (by subst hTQ; exact rs_w hRr hSt (hX 2 : iv 0 700 (x0 2)) hk_76 (iv_w h76_3 (by decide) (by decide)) (hI76_0 2 : iv 0 700 (y76_0 2)) c29), (show y76_0 1 = x0 1 from htp_76), (show y76_0 10 = x0 10 from hfp_76), (show y76_0 21 = x0 21 from hnd_76), (show y76_0 25 = x0 25 from hnt_76), (show y76_0 23 = x0 23 from hhm_76), by rw [ht]; exact hP9, hD9⟩, hS.F ht⟩) hS.2.2 dX11_stepOn_219
      · have b32 : iv 1 1 (isLt (byA q_tape (y76_0 3) (y76_0 2))) := iv_neLo c29 b28 ivk_0 (by decide) (by decide)
        have b33 : iv 97 122 (byA q_tape (y76_0 3) (y76_0 2)) := isLt_iv (iv_ne b32 ivk_0 (by decide))
        have b34 : iv 0 699 (y76_0 2) := (hq24).resolve_left (iv_ne b33 ivk_m1 (by decide))
        refine lv_aload_n hx hb dX11_stepOn_90 rfl (lv_at hl 0 rfl) ?_
        refine lv_dup hx hb dX11_stepOn_91 rfl ?_
        refine va_get (D := (dC, dI)) (ci := 11) (v := .int (y76_0 2)) (C := RX11) (T := TX11) (N := 61) hx hb hts hin11 hown hK hP 0 rfl rfl 16 (Nat.le_of_ble_eq_true rfl) hw_0 (fun _ h9 => h9) rfl dX11_stepOn_92 ?_
        refine lv_iconst (v := 1) hx hb dX11_stepOn_95 ic_1 ?_
        refine lv_iadd hx hb dX11_stepOn_96 ?_
        have b35 : iv 1 700 ((y76_0 2) + 1) := iv_add b34 ivk_1 (by decide) (by decide) (by decide) (by decide)
        have t36 : ((y76_0 2) + 1).toInt = (y76_0 2).toInt + 1 := iv_addc b34 (by decide) (by decide) (by decide)
        refine va_put (D := (dC, dI)) (ci := 11) (v := .int ((y76_0 2) + 1)) (ty := .int) (C := RX11) (T := TX11) (N := 61) hx hb hts hin11 tyX11 tyX11_ok nmX11 hown hK hP hD hS 0 rfl rfl 16 (by decide) hw_0 (fun _ h9 => h9) rfl (by decide +kernel) rfl rfl (Nat.le_of_ble_eq_true rfl) dX11_stepOn_97 (fun H locs hPa hDa hS => ?_)
        clear hP hD
        have hP : va_P (dC, dI) vwCl [(m0, .inr (11, oX11 ra (upd y76_0 2 ((y76_0 2) + 1)))), (ra 13, .inl (kI, 700, .inl q_tape))] H := hPa
        have hD : va_D A [(m0, .inr (11, oX11 ra (upd y76_0 2 ((y76_0 2) + 1)))), (ra 13, .inl (kI, 700, .inl q_tape))] := hDa
        clear hPa hDa
        refine lv_goto (tgt := 76) hx hb dX11_stepOn_100 rfl ?_
        exact ih76 (upd y76_0 2 ((y76_0 2) + 1)) v76_loc1 _ _ _ (ms_up (c := 1) (d := 0) b34 hm76 (by decide) (iv_addc b34 (by decide) (by decide) (by decide)) (by decide) rfl) ((fI_u hI76_0 (k := 2) ((iv_w b35 (by decide) (by decide))))) (h76_2) (h76_3) ((show (x0 2).toInt + 1 ≤ ((y76_0 2) + 1).toInt ∨ ¬ isLt (byA q_tape (x0 3) ((y76_0 2) + 1)) = 0 from Or.inl (by have q := hat_76; omega))) ((by subst hTQ; exact rs_76s hRr hk_76 (iv_w b34 (by decide) (by decide)) c29)) ((show (x0 2).toInt ≤ ((y76_0 2) + 1).toInt from by omega)) ((show y76_0 3 = x0 3 from hts_76)) ((show y76_0 1 = x0 1 from htp_76)) ((show y76_0 10 = x0 10 from hfp_76)) ((show y76_0 21 = x0 21 from hnd_76)) ((show y76_0 25 = x0 25 from hnt_76)) ((show y76_0 23 = x0 23 from hhm_76)) (hP) (hD) hS (lv_sub hl [0, 1] rfl)
  have hJ0 : ∀ (n : Nat) (y0_0 : Nat → Int32) (H : Heap) (locs : List Loc) (ls : Array Slot), (700 - (y0_0 2).toInt).toNat < n → fI lX11 hX11 y0_0 → (R0 tT nN x0 y0_0) → ((x0 2).toInt ≤ (y0_0 2).toInt) → (y0_0 3 = x0 3) → (y0_0 1 = x0 1) → (y0_0 10 = x0 10) → (y0_0 21 = x0 21) → (y0_0 25 = x0 25) → (y0_0 23 = x0 23) → va_P (dC, dI) vwCl [(m0, .inr (11, oX11 ra y0_0)), (ra 13, .inl (kI, 700, .inl q_tape))] H → va_D A [(m0, .inr (11, oX11 ra y0_0)), (ra 13, .inl (kI, 700, .inl q_tape))] → va_S A s.heap H locs → lv_has ls 2 [(0, .ref m0)] → W p l e (headSpec wsX11_stepOn rm_s11_stepOn).room s m args0 below meth c H locs (0) (0) (MQ below (va_Qv (fun (_ : Unit) => True) (fun _ t => ∃ (x0' : Nat → Int32), fI lX11 hX11 x0' ∧ ((x0 2).toInt ≤ (x0' 2).toInt) ∧ (x0' 3 = x0 3) ∧ (x0' 4 = 0 ∨ (x0 2).toInt + 1 ≤ (x0' 2).toInt) ∧ (RRd tT nN x0' (uS)) ∧ (x0' 1 = x0 1) ∧ (x0' 10 = x0 10) ∧ (x0' 21 = x0 21) ∧ (x0' 25 = x0 25) ∧ (x0' 23 = x0 23) ∧ va_P (dC, dI) vwCl [(m0, .inr (11, oX11 ra x0')), (ra 13, .inl (kI, 700, .inl q_tape))] t.heap ∧ va_D A [(m0, .inr (11, oX11 ra x0')), (ra 13, .inl (kI, 700, .inl q_tape))]) A) args0 s 0 0 A) (F0 m 0 ls []) := by
    intro n
    induction n with
    | zero => intro y0_0 H locs ls hm0; exact absurd hm0 (Nat.not_lt_zero _)
    | succ n ih0 =>
      intro y0_0 H locs ls hm0 hI0_0 hk_0 hat_0 hts_0 htp_0 hfp_0 hnd_0 hnt_0 hhm_0 hP hD hS hl
      refine lv_aload_n hx hb dX11_stepOn_0 rfl (lv_at hl 0 rfl) ?_
      refine lv_aload_n hx hb dX11_stepOn_1 rfl (lv_at hl 0 rfl) ?_
      refine va_get (D := (dC, dI)) (ci := 11) (v := .int (y0_0 2)) (C := RX11) (T := TX11) (N := 61) hx hb hts hin11 hown hK hP 0 rfl rfl 16 (Nat.le_of_ble_eq_true rfl) hw_0 (fun _ h9 => h9) rfl dX11_stepOn_2 ?_
      obtain ⟨hPc, hDc, hFc, hJn⟩ := cl_a (wc := [(m0, .inr (11, oX11 ra y0_0)), (ra 13, .inl (kI, 700, .inl q_tape))]) (wr := []) hP hD hS hA [0, 1] [] rfl rfl (by decide +kernel)
      refine va_calli (va_runV (As := [.int (y0_0 2)]) (rest := []) ⟨hx, hb, hml, hown, hts⟩ (s11_byteAt l dC dI kB kI kJ kZ kC kS H.size m0 ra y0_0 q_tape (y0_0 2) (hI0_0) (hq_tape) ((hI0_0 2 : iv 0 700 (y0_0 2)))) (cwV 1 hts gX11_stepOn_X11_byteAt rfl rfl rfl (by decide +kernel) ⟨Nat.le_of_ble_eq_true rfl, Nat.le_of_ble_eq_true rfl⟩) ⟨fun a U g mk q => by obtain ⟨q0, q1, qP, qE, qD⟩ := q; exact ⟨q0, q1, qP, kE_call qE, qD⟩, va_recv hK hP (ci := 11) (q0 := 0) rfl rfl, fun U hU hW => ⟨rfl, by rw [hU], by rw [hU]; exact hPc, kE_warm hW hE, hDc.weaken (fun _ _ _ _ => trivial)⟩⟩ rfl rfl hl.1 rfl (lv_room (Nat.le_of_ble_eq_true rfl)) dX11_stepOn_5 ⟨Nat.le_of_ble_eq_true rfl, Nat.le_of_ble_eq_true rfl⟩) hS (fun q _ h => hFc q h) hFc (fun r37 u t H locs ht hvm w38 hB hz1 hk1 hS => ?_)
      obtain ⟨hq39, hP1, hD1⟩ := hB
      try dsimp only at w38
      obtain ⟨hPa, hDa⟩ := hJn (w1 := [(m0, .inr (11, oX11 ra y0_0)), (ra 13, .inl (kI, 700, .inl q_tape))]) hk1 ht hP1 hD1
      clear hP hD hPc hDc hFc hJn hP1 hD1 hk1
      have hP : va_P (dC, dI) vwCl [(m0, .inr (11, oX11 ra y0_0)), (ra 13, .inl (kI, 700, .inl q_tape))] H := hPa
      have hD : va_D A [(m0, .inr (11, oX11 ra y0_0)), (ra 13, .inl (kI, 700, .inl q_tape))] := hDa
      clear hPa hDa
      refine W.widen (k := 0) (n := 0) (Nat.le_of_ble_eq_true rfl) (Nat.le_of_ble_eq_true rfl) ?_
      obtain ⟨w38, b40⟩ := w38
      subst w38
      refine lv_bipush (v := 32) hx hb dX11_stepOn_8 bp_32 ?_
      refine lv_icmp_eq (tgt := 26) hx hb dX11_stepOn_10 rfl (fun c41 => ?_) (fun c41 => ?_)
      · have b42 : iv 32 32 (byA q_tape (y0_0 3) (y0_0 2)) := iv_eqL c41 ivk_32
        have b43 : iv 0 699 (y0_0 2) := (hq39).resolve_left (iv_ne b42 ivk_m1 (by decide))
        refine lv_aload_n hx hb dX11_stepOn_26 rfl (lv_at hl 0 rfl) ?_
        refine lv_dup hx hb dX11_stepOn_27 rfl ?_
        refine va_get (D := (dC, dI)) (ci := 11) (v := .int (y0_0 2)) (C := RX11) (T := TX11) (N := 61) hx hb hts hin11 hown hK hP 0 rfl rfl 16 (Nat.le_of_ble_eq_true rfl) hw_0 (fun _ h9 => h9) rfl dX11_stepOn_28 ?_
        refine lv_iconst (v := 1) hx hb dX11_stepOn_31 ic_1 ?_
        refine lv_iadd hx hb dX11_stepOn_32 ?_
        have b44 : iv 1 700 ((y0_0 2) + 1) := iv_add b43 ivk_1 (by decide) (by decide) (by decide) (by decide)
        have t45 : ((y0_0 2) + 1).toInt = (y0_0 2).toInt + 1 := iv_addc b43 (by decide) (by decide) (by decide)
        refine va_put (D := (dC, dI)) (ci := 11) (v := .int ((y0_0 2) + 1)) (ty := .int) (C := RX11) (T := TX11) (N := 61) hx hb hts hin11 tyX11 tyX11_ok nmX11 hown hK hP hD hS 0 rfl rfl 16 (by decide) hw_0 (fun _ h9 => h9) rfl (by decide +kernel) rfl rfl (Nat.le_of_ble_eq_true rfl) dX11_stepOn_33 (fun H locs hPa hDa hS => ?_)
        clear hP hD
        have hP : va_P (dC, dI) vwCl [(m0, .inr (11, oX11 ra (upd y0_0 2 ((y0_0 2) + 1)))), (ra 13, .inl (kI, 700, .inl q_tape))] H := hPa
        have hD : va_D A [(m0, .inr (11, oX11 ra (upd y0_0 2 ((y0_0 2) + 1)))), (ra 13, .inl (kI, 700, .inl q_tape))] := hDa
        clear hPa hDa
        refine lv_goto (tgt := 0) hx hb dX11_stepOn_36 rfl ?_
        exact ih0 (upd y0_0 2 ((y0_0 2) + 1)) _ _ _ (ms_up (c := 1) (d := 0) b43 hm0 (by decide) (iv_addc b43 (by decide) (by decide) (by decide)) (by decide) rfl) ((fI_u hI0_0 (k := 2) ((iv_w b44 (by decide) (by decide))))) ((by subst hTQ; exact rs_bl hRr hk_0 (iv_w b43 (by decide) (by decide)) (Or.inl c41))) ((show (x0 2).toInt ≤ ((y0_0 2) + 1).toInt from by omega)) ((show y0_0 3 = x0 3 from hts_0)) ((show y0_0 1 = x0 1 from htp_0)) ((show y0_0 10 = x0 10 from hfp_0)) ((show y0_0 21 = x0 21 from hnd_0)) ((show y0_0 25 = x0 25 from hnt_0)) ((show y0_0 23 = x0 23 from hhm_0)) (hP) (hD) hS (lv_sub hl [0] rfl)
      · refine lv_aload_n hx hb dX11_stepOn_13 rfl (lv_at hl 0 rfl) ?_
        refine lv_aload_n hx hb dX11_stepOn_14 rfl (lv_at hl 0 rfl) ?_
        refine va_get (D := (dC, dI)) (ci := 11) (v := .int (y0_0 2)) (C := RX11) (T := TX11) (N := 61) hx hb hts hin11 hown hK hP 0 rfl rfl 16 (Nat.le_of_ble_eq_true rfl) hw_0 (fun _ h9 => h9) rfl dX11_stepOn_15 ?_
        obtain ⟨hPc, hDc, hFc, hJn⟩ := cl_a (wc := [(m0, .inr (11, oX11 ra y0_0)), (ra 13, .inl (kI, 700, .inl q_tape))]) (wr := []) hP hD hS hA [0, 1] [] rfl rfl (by decide +kernel)
        refine va_calli (va_runV (As := [.int (y0_0 2)]) (rest := []) ⟨hx, hb, hml, hown, hts⟩ (s11_byteAt l dC dI kB kI kJ kZ kC kS H.size m0 ra y0_0 q_tape (y0_0 2) (hI0_0) (hq_tape) ((hI0_0 2 : iv 0 700 (y0_0 2)))) (cwV 1 hts gX11_stepOn_X11_byteAt rfl rfl rfl (by decide +kernel) ⟨Nat.le_of_ble_eq_true rfl, Nat.le_of_ble_eq_true rfl⟩) ⟨fun a U g mk q => by obtain ⟨q0, q1, qP, qE, qD⟩ := q; exact ⟨q0, q1, qP, kE_call qE, qD⟩, va_recv hK hP (ci := 11) (q0 := 0) rfl rfl, fun U hU hW => ⟨rfl, by rw [hU], by rw [hU]; exact hPc, kE_warm hW hE, hDc.weaken (fun _ _ _ _ => trivial)⟩⟩ rfl rfl hl.1 rfl (lv_room (Nat.le_of_ble_eq_true rfl)) dX11_stepOn_18 ⟨Nat.le_of_ble_eq_true rfl, Nat.le_of_ble_eq_true rfl⟩) hS (fun q _ h => hFc q h) hFc (fun r46 u t H locs ht hvm w47 hB hz1 hk1 hS => ?_)
        obtain ⟨hq48, hP1, hD1⟩ := hB
        try dsimp only at w47
        obtain ⟨hPa, hDa⟩ := hJn (w1 := [(m0, .inr (11, oX11 ra y0_0)), (ra 13, .inl (kI, 700, .inl q_tape))]) hk1 ht hP1 hD1
        clear hP hD hPc hDc hFc hJn hP1 hD1 hk1
        have hP : va_P (dC, dI) vwCl [(m0, .inr (11, oX11 ra y0_0)), (ra 13, .inl (kI, 700, .inl q_tape))] H := hPa
        have hD : va_D A [(m0, .inr (11, oX11 ra y0_0)), (ra 13, .inl (kI, 700, .inl q_tape))] := hDa
        clear hPa hDa
        refine W.widen (k := 0) (n := 0) (Nat.le_of_ble_eq_true rfl) (Nat.le_of_ble_eq_true rfl) ?_
        obtain ⟨w47, b49⟩ := w47
        subst w47
        refine lv_bipush (v := 10) hx hb dX11_stepOn_21 bp_10 ?_
        refine lv_icmp_ne (tgt := 39) hx hb dX11_stepOn_23 rfl (fun c50 => ?_) (fun c50 => ?_)
        · refine lv_aload_n hx hb dX11_stepOn_39 rfl (lv_at hl 0 rfl) ?_
          refine lv_aload_n hx hb dX11_stepOn_40 rfl (lv_at hl 0 rfl) ?_
          refine va_get (D := (dC, dI)) (ci := 11) (v := .int (y0_0 2)) (C := RX11) (T := TX11) (N := 61) hx hb hts hin11 hown hK hP 0 rfl rfl 16 (Nat.le_of_ble_eq_true rfl) hw_0 (fun _ h9 => h9) rfl dX11_stepOn_41 ?_
          refine va_put (D := (dC, dI)) (ci := 11) (v := .int (y0_0 2)) (ty := .int) (C := RX11) (T := TX11) (N := 61) hx hb hts hin11 tyX11 tyX11_ok nmX11 hown hK hP hD hS 0 rfl rfl 20 (by decide) hw_9 (fun _ h9 => h9) rfl (by decide +kernel) rfl rfl (Nat.le_of_ble_eq_true rfl) dX11_stepOn_44 (fun H locs hPa hDa hS => ?_)
          clear hP hD
          have hP : va_P (dC, dI) vwCl [(m0, .inr (11, oX11 ra (upd y0_0 6 (y0_0 2)))), (ra 13, .inl (kI, 700, .inl q_tape))] H := hPa
          have hD : va_D A [(m0, .inr (11, oX11 ra (upd y0_0 6 (y0_0 2)))), (ra 13, .inl (kI, 700, .inl q_tape))] := hDa
          clear hPa hDa
          refine lv_aload_n hx hb dX11_stepOn_47 rfl (lv_at hl 0 rfl) ?_
          refine lv_aload_n hx hb dX11_stepOn_48 rfl (lv_at hl 0 rfl) ?_
          refine va_get (D := (dC, dI)) (ci := 11) (v := .int (y0_0 2)) (C := RX11) (T := TX11) (N := 61) hx hb hts hin11 hown hK hP 0 rfl rfl 16 (Nat.le_of_ble_eq_true rfl) hw_0 (fun _ h9 => h9) rfl dX11_stepOn_49 ?_
          obtain ⟨hPc, hDc, hFc, hJn⟩ := cl_a (wc := [(m0, .inr (11, oX11 ra (upd y0_0 6 (y0_0 2)))), (ra 13, .inl (kI, 700, .inl q_tape))]) (wr := []) hP hD hS hA [0, 1] [] rfl rfl (by decide +kernel)
          refine va_calli (va_runV (As := [.int (y0_0 2)]) (rest := []) ⟨hx, hb, hml, hown, hts⟩ (s11_byteAt l dC dI kB kI kJ kZ kC kS H.size m0 ra (upd y0_0 6 (y0_0 2)) q_tape (y0_0 2) ((fI_u hI0_0 (k := 6) ((hI0_0 2 : iv 0 700 (y0_0 2))))) (hq_tape) ((hI0_0 2 : iv 0 700 (y0_0 2)))) (cwV 1 hts gX11_stepOn_X11_byteAt rfl rfl rfl (by decide +kernel) ⟨Nat.le_of_ble_eq_true rfl, Nat.le_of_ble_eq_true rfl⟩) ⟨fun a U g mk q => by obtain ⟨q0, q1, qP, qE, qD⟩ := q; exact ⟨q0, q1, qP, kE_call qE, qD⟩, va_recv hK hP (ci := 11) (q0 := 0) rfl rfl, fun U hU hW => ⟨rfl, by rw [hU], by rw [hU]; exact hPc, kE_warm hW hE, hDc.weaken (fun _ _ _ _ => trivial)⟩⟩ rfl rfl hl.1 rfl (lv_room (Nat.le_of_ble_eq_true rfl)) dX11_stepOn_52 ⟨Nat.le_of_ble_eq_true rfl, Nat.le_of_ble_eq_true rfl⟩) hS (fun q _ h => hFc q h) hFc (fun r51 u t H locs ht hvm w52 hB hz1 hk1 hS => ?_)
          obtain ⟨hq53, hP1, hD1⟩ := hB
          try dsimp only at w52
          obtain ⟨hPa, hDa⟩ := hJn (w1 := [(m0, .inr (11, oX11 ra (upd y0_0 6 (y0_0 2)))), (ra 13, .inl (kI, 700, .inl q_tape))]) hk1 ht hP1 hD1
          clear hP hD hPc hDc hFc hJn hP1 hD1 hk1
          have hP : va_P (dC, dI) vwCl [(m0, .inr (11, oX11 ra (upd y0_0 6 (y0_0 2)))), (ra 13, .inl (kI, 700, .inl q_tape))] H := hPa
          have hD : va_D A [(m0, .inr (11, oX11 ra (upd y0_0 6 (y0_0 2)))), (ra 13, .inl (kI, 700, .inl q_tape))] := hDa
          clear hPa hDa
          refine W.widen (k := 0) (n := 0) (Nat.le_of_ble_eq_true rfl) (Nat.le_of_ble_eq_true rfl) ?_
          obtain ⟨w52, b54⟩ := w52
          subst w52
          refine lv_istore_n (lv' := [(1, .int (byA q_tape (y0_0 3) (y0_0 2))), (0, .ref m0)]) hx hb dX11_stepOn_55 rfl hl (Nat.le_of_ble_eq_true rfl) rfl (fun ls hl => ?_)
          refine lv_iload_n hx hb dX11_stepOn_56 rfl (lv_at hl 0 rfl) ?_
          refine lv_iconst (v := (-1)) hx hb dX11_stepOn_57 ic_m1 ?_
          refine lv_icmp_ne (tgt := 69) hx hb dX11_stepOn_58 rfl (fun c55 => ?_) (fun c55 => ?_)
          · have b56 : iv 0 255 (byA q_tape (y0_0 3) (y0_0 2)) := iv_neLo c55 b40 ivk_m1 (by decide) (by decide)
            have b57 : iv 0 699 (y0_0 2) := (hq39).resolve_left (iv_ne b56 ivk_m1 (by decide))
            refine lv_iload_n hx hb dX11_stepOn_69 rfl (lv_at hl 0 rfl) ?_
            obtain ⟨hPc, hDc, hFc, hJn⟩ := cl_a (wc := []) (wr := [(m0, .inr (11, oX11 ra (upd y0_0 6 (y0_0 2)))), (ra 13, .inl (kI, 700, .inl q_tape))]) hP hD hS hA [] [0, 1] rfl rfl (by decide +kernel)
            refine va_calli (va_runS (As := [.int (byA q_tape (y0_0 3) (y0_0 2))]) (rest := []) ⟨hx, hb, hml, hown, hts⟩ (s11_isLetter l dC dI kB kI kJ kZ kC kS H.size (byA q_tape (y0_0 3) (y0_0 2))) (va_cwS 1 hts gX11_stepOn_X11_isLetter rfl rfl rfl (by decide +kernel) ⟨Nat.le_of_ble_eq_true rfl, Nat.le_of_ble_eq_true rfl⟩) ⟨fun a U g mk q => by obtain ⟨q0, q1, qP, qE, qD⟩ := q; exact ⟨q0, q1, qP, kE_call qE, qD⟩, fun U hU hW => ⟨rfl, by rw [hU], by rw [hU]; exact hPc, kE_warm hW hE, hDc.weaken (fun _ _ _ _ => trivial)⟩⟩ rfl rfl hl.1 rfl (lv_room (Nat.le_of_ble_eq_true rfl)) dX11_stepOn_70 ⟨Nat.le_of_ble_eq_true rfl, Nat.le_of_ble_eq_true rfl⟩) hS (fun q _ h => hFc q h) hFc (fun r58 u t H locs ht hvm w59 hB hz1 hk1 hS => ?_)
            obtain ⟨hP1, hD1⟩ := hB
            try dsimp only at w59
            obtain ⟨hPa, hDa⟩ := hJn (w1 := []) hk1 ht hP1 hD1
            clear hP hD hPc hDc hFc hJn hP1 hD1 hk1
            have hP : va_P (dC, dI) vwCl [(m0, .inr (11, oX11 ra (upd y0_0 6 (y0_0 2)))), (ra 13, .inl (kI, 700, .inl q_tape))] H := hPa
            have hD : va_D A [(m0, .inr (11, oX11 ra (upd y0_0 6 (y0_0 2)))), (ra 13, .inl (kI, 700, .inl q_tape))] := hDa
            clear hPa hDa
            refine W.widen (k := 0) (n := 0) (Nat.le_of_ble_eq_true rfl) (Nat.le_of_ble_eq_true rfl) ?_
            obtain ⟨w59, b60⟩ := w59
            subst w59
            refine lv_if_eq (tgt := 111) hx hb dX11_stepOn_73 rfl (fun c61 => ?_) (fun c61 => ?_)
            · have b62 : iv 0 0 (isLt (byA q_tape (y0_0 3) (y0_0 2))) := iv_eqL c61 ivk_0
              refine lv_iload_n hx hb dX11_stepOn_111 rfl (lv_at hl 0 rfl) ?_
              obtain ⟨hPc, hDc, hFc, hJn⟩ := cl_a (wc := []) (wr := [(m0, .inr (11, oX11 ra (upd y0_0 6 (y0_0 2)))), (ra 13, .inl (kI, 700, .inl q_tape))]) hP hD hS hA [] [0, 1] rfl rfl (by decide +kernel)
              refine va_calli (va_runS (As := [.int (byA q_tape (y0_0 3) (y0_0 2))]) (rest := []) ⟨hx, hb, hml, hown, hts⟩ (s11_isDigit l dC dI kB kI kJ kZ kC kS H.size (byA q_tape (y0_0 3) (y0_0 2))) (va_cwS 1 hts gX11_stepOn_X11_isDigit rfl rfl rfl (by decide +kernel) ⟨Nat.le_of_ble_eq_true rfl, Nat.le_of_ble_eq_true rfl⟩) ⟨fun a U g mk q => by obtain ⟨q0, q1, qP, qE, qD⟩ := q; exact ⟨q0, q1, qP, kE_call qE, qD⟩, fun U hU hW => ⟨rfl, by rw [hU], by rw [hU]; exact hPc, kE_warm hW hE, hDc.weaken (fun _ _ _ _ => trivial)⟩⟩ rfl rfl hl.1 rfl (lv_room (Nat.le_of_ble_eq_true rfl)) dX11_stepOn_112 ⟨Nat.le_of_ble_eq_true rfl, Nat.le_of_ble_eq_true rfl⟩) hS (fun q _ h => hFc q h) hFc (fun r63 u t H locs ht hvm w64 hB hz1 hk1 hS => ?_)
              obtain ⟨hP1, hD1⟩ := hB
              try dsimp only at w64
              obtain ⟨hPa, hDa⟩ := hJn (w1 := []) hk1 ht hP1 hD1
              clear hP hD hPc hDc hFc hJn hP1 hD1 hk1
              have hP : va_P (dC, dI) vwCl [(m0, .inr (11, oX11 ra (upd y0_0 6 (y0_0 2)))), (ra 13, .inl (kI, 700, .inl q_tape))] H := hPa
              have hD : va_D A [(m0, .inr (11, oX11 ra (upd y0_0 6 (y0_0 2)))), (ra 13, .inl (kI, 700, .inl q_tape))] := hDa
              clear hPa hDa
              refine W.widen (k := 0) (n := 0) (Nat.le_of_ble_eq_true rfl) (Nat.le_of_ble_eq_true rfl) ?_
              obtain ⟨w64, b65⟩ := w64
              subst w64
              refine lv_if_eq (tgt := 186) hx hb dX11_stepOn_115 rfl (fun c66 => ?_) (fun c66 => ?_)
              · have b67 : iv 0 0 (isDg (byA q_tape (y0_0 3) (y0_0 2))) := iv_eqL c66 ivk_0
                refine lv_aload_n hx hb dX11_stepOn_186 rfl (lv_at hl 1 rfl) ?_
                refine lv_dup hx hb dX11_stepOn_187 rfl ?_
                refine va_get (D := (dC, dI)) (ci := 11) (v := .int (y0_0 2)) (C := RX11) (T := TX11) (N := 61) hx hb hts hin11 hown hK hP 0 rfl rfl 16 (Nat.le_of_ble_eq_true rfl) hw_0 (fun _ h9 => h9) rfl dX11_stepOn_188 ?_
                refine lv_iconst (v := 1) hx hb dX11_stepOn_191 ic_1 ?_
                refine lv_iadd hx hb dX11_stepOn_192 ?_
                have b68 : iv 1 700 ((y0_0 2) + 1) := iv_add b57 ivk_1 (by decide) (by decide) (by decide) (by decide)
                have t69 : ((y0_0 2) + 1).toInt = (y0_0 2).toInt + 1 := iv_addc b57 (by decide) (by decide) (by decide)
                refine va_put (D := (dC, dI)) (ci := 11) (v := .int ((y0_0 2) + 1)) (ty := .int) (C := RX11) (T := TX11) (N := 61) hx hb hts hin11 tyX11 tyX11_ok nmX11 hown hK hP hD hS 0 rfl rfl 16 (by decide) hw_0 (fun _ h9 => h9) rfl (by decide +kernel) rfl rfl (Nat.le_of_ble_eq_true rfl) dX11_stepOn_193 (fun H locs hPa hDa hS => ?_)
                clear hP hD
                have hP : va_P (dC, dI) vwCl [(m0, .inr (11, oX11 ra (upd (upd y0_0 6 (y0_0 2)) 2 ((y0_0 2) + 1)))), (ra 13, .inl (kI, 700, .inl q_tape))] H := hPa
                have hD : va_D A [(m0, .inr (11, oX11 ra (upd (upd y0_0 6 (y0_0 2)) 2 ((y0_0 2) + 1)))), (ra 13, .inl (kI, 700, .inl q_tape))] := hDa
                clear hPa hDa
                refine lv_aload_n hx hb dX11_stepOn_196 rfl (lv_at hl 1 rfl) ?_
                refine lv_iload_n hx hb dX11_stepOn_197 rfl (lv_at hl 0 rfl) ?_
                refine lv_bipush (v := 59) hx hb dX11_stepOn_198 bp_59 ?_
                refine lv_icmp_ne (tgt := 207) hx hb dX11_stepOn_200 rfl (fun c70 => ?_) (fun c70 => ?_)
                · refine lv_iconst (v := 4) hx hb dX11_stepOn_207 ic_4 ?_
                  refine va_put (D := (dC, dI)) (ci := 11) (v := .int 4) (ty := .int) (C := RX11) (T := TX11) (N := 61) hx hb hts hin11 tyX11 tyX11_ok nmX11 hown hK hP hD hS 0 rfl rfl 18 (by decide) hw_1 (fun _ h9 => h9) rfl (by decide +kernel) rfl rfl (Nat.le_of_ble_eq_true rfl) dX11_stepOn_208 (fun H locs hPa hDa hS => ?_)
                  clear hP hD
                  have hP : va_P (dC, dI) vwCl [(m0, .inr (11, oX11 ra (upd (upd (upd y0_0 6 (y0_0 2)) 2 ((y0_0 2) + 1)) 4 4))), (ra 13, .inl (kI, 700, .inl q_tape))] H := hPa
                  have hD : va_D A [(m0, .inr (11, oX11 ra (upd (upd (upd y0_0 6 (y0_0 2)) 2 ((y0_0 2) + 1)) 4 4))), (ra 13, .inl (kI, 700, .inl q_tape))] := hDa
                  clear hPa hDa
                  refine lv_aload_n hx hb dX11_stepOn_211 rfl (lv_at hl 1 rfl) ?_
                  refine lv_aload_n hx hb dX11_stepOn_212 rfl (lv_at hl 1 rfl) ?_
                  refine va_get (D := (dC, dI)) (ci := 11) (v := .int ((y0_0 2) + 1)) (C := RX11) (T := TX11) (N := 61) hx hb hts hin11 hown hK hP 0 rfl rfl 16 (Nat.le_of_ble_eq_true rfl) hw_0 (fun _ h9 => h9) rfl dX11_stepOn_213 ?_
                  refine va_put (D := (dC, dI)) (ci := 11) (v := .int ((y0_0 2) + 1)) (ty := .int) (C := RX11) (T := TX11) (N := 61) hx hb hts hin11 tyX11 tyX11_ok nmX11 hown hK hP hD hS 0 rfl rfl 21 (by decide) hw_2 (fun _ h9 => h9) rfl (by decide +kernel) rfl rfl (Nat.le_of_ble_eq_true rfl) dX11_stepOn_216 (fun H locs hPa hDa hS => ?_)
                  clear hP hD
                  have hP : va_P (dC, dI) vwCl [(m0, .inr (11, oX11 ra (upd (upd (upd (upd y0_0 6 (y0_0 2)) 2 ((y0_0 2) + 1)) 4 4) 7 ((y0_0 2) + 1)))), (ra 13, .inl (kI, 700, .inl q_tape))] H := hPa
                  have hD : va_D A [(m0, .inr (11, oX11 ra (upd (upd (upd (upd y0_0 6 (y0_0 2)) 2 ((y0_0 2) + 1)) 4 4) 7 ((y0_0 2) + 1)))), (ra 13, .inl (kI, 700, .inl q_tape))] := hDa
                  clear hPa hDa
                  have hP9 := hP
                  have hD9 := hD
                  exact W.vret hx hb hr (fun t ht hW => ⟨⟨(), rfl, trivial, upd (upd (upd (upd y0_0 6 (y0_0 2)) 2 ((y0_0 2) + 1)) 4 4) 7 ((y0_0 2) + 1), (fI_u (fI_u (fI_u (fI_u hI0_0 (k := 6) ((iv_w b57 (by decide) (by decide)))) (k := 2) ((iv_w b68 (by decide) (by decide)))) (k := 4) ((iv_w ivk_4 (by decide) (by decide)))) (k := 7) ((iv_w b68 (by decide) (by decide)))), (show (x0 2).toInt ≤ ((y0_0 2) + 1).toInt from by omega), (show y0_0 3 = x0 3 from hts_0), (show 4 = 0 ∨ (x0 2).toInt + 1 ≤ ((y0_0 2) + 1).toInt from Or.inr (by omega)), (by subst hTQ; exact rs_sg hRr hSt (hX 2 : iv 0 700 (x0 2)) (rs_39 hRr hk_0 (iv_w b57 (by decide) (by decide)) c41 c50) c55 c61 c66 (Or.inr ⟨c70, rfl⟩)), (show y0_0 1 = x0 1 from htp_0), (show y0_0 10 = x0 10 from hfp_0), (show y0_0 21 = x0 21 from hnd_0), (show y0_0 25 = x0 25 from hnt_0), (show y0_0 23 = x0 23 from hhm_0), by rw [ht]; exact hP9, hD9⟩, hS.F ht⟩) hS.2.2 dX11_stepOn_219
                · have b71 : iv 59 59 (byA q_tape (y0_0 3) (y0_0 2)) := iv_eqL c70 ivk_59
                  refine lv_iconst (v := 3) hx hb dX11_stepOn_203 ic_3 ?_
                  refine lv_goto (tgt := 208) hx hb dX11_stepOn_204 rfl ?_
                  refine va_put (D := (dC, dI)) (ci := 11) (v := .int 3) (ty := .int) (C := RX11) (T := TX11) (N := 61) hx hb hts hin11 tyX11 tyX11_ok nmX11 hown hK hP hD hS 0 rfl rfl 18 (by decide) hw_1 (fun _ h9 => h9) rfl (by decide +kernel) rfl rfl (Nat.le_of_ble_eq_true rfl) dX11_stepOn_208 (fun H locs hPa hDa hS => ?_)
                  clear hP hD
                  have hP : va_P (dC, dI) vwCl [(m0, .inr (11, oX11 ra (upd (upd (upd y0_0 6 (y0_0 2)) 2 ((y0_0 2) + 1)) 4 3))), (ra 13, .inl (kI, 700, .inl q_tape))] H := hPa
                  have hD : va_D A [(m0, .inr (11, oX11 ra (upd (upd (upd y0_0 6 (y0_0 2)) 2 ((y0_0 2) + 1)) 4 3))), (ra 13, .inl (kI, 700, .inl q_tape))] := hDa
                  clear hPa hDa
                  refine lv_aload_n hx hb dX11_stepOn_211 rfl (lv_at hl 1 rfl) ?_
                  refine lv_aload_n hx hb dX11_stepOn_212 rfl (lv_at hl 1 rfl) ?_
                  refine va_get (D := (dC, dI)) (ci := 11) (v := .int ((y0_0 2) + 1)) (C := RX11) (T := TX11) (N := 61) hx hb hts hin11 hown hK hP 0 rfl rfl 16 (Nat.le_of_ble_eq_true rfl) hw_0 (fun _ h9 => h9) rfl dX11_stepOn_213 ?_
                  refine va_put (D := (dC, dI)) (ci := 11) (v := .int ((y0_0 2) + 1)) (ty := .int) (C := RX11) (T := TX11) (N := 61) hx hb hts hin11 tyX11 tyX11_ok nmX11 hown hK hP hD hS 0 rfl rfl 21 (by decide) hw_2 (fun _ h9 => h9) rfl (by decide +kernel) rfl rfl (Nat.le_of_ble_eq_true rfl) dX11_stepOn_216 (fun H locs hPa hDa hS => ?_)
                  clear hP hD
                  have hP : va_P (dC, dI) vwCl [(m0, .inr (11, oX11 ra (upd (upd (upd (upd y0_0 6 (y0_0 2)) 2 ((y0_0 2) + 1)) 4 3) 7 ((y0_0 2) + 1)))), (ra 13, .inl (kI, 700, .inl q_tape))] H := hPa
                  have hD : va_D A [(m0, .inr (11, oX11 ra (upd (upd (upd (upd y0_0 6 (y0_0 2)) 2 ((y0_0 2) + 1)) 4 3) 7 ((y0_0 2) + 1)))), (ra 13, .inl (kI, 700, .inl q_tape))] := hDa
                  clear hPa hDa
                  have hP9 := hP
                  have hD9 := hD
                  exact W.vret hx hb hr (fun t ht hW => ⟨⟨(), rfl, trivial, upd (upd (upd (upd y0_0 6 (y0_0 2)) 2 ((y0_0 2) + 1)) 4 3) 7 ((y0_0 2) + 1), (fI_u (fI_u (fI_u (fI_u hI0_0 (k := 6) ((iv_w b57 (by decide) (by decide)))) (k := 2) ((iv_w b68 (by decide) (by decide)))) (k := 4) ((iv_w ivk_3 (by decide) (by decide)))) (k := 7) ((iv_w b68 (by decide) (by decide)))), (show (x0 2).toInt ≤ ((y0_0 2) + 1).toInt from by omega), (show y0_0 3 = x0 3 from hts_0), (show 3 = 0 ∨ (x0 2).toInt + 1 ≤ ((y0_0 2) + 1).toInt from Or.inr (by omega)), (by subst hTQ; exact rs_sg hRr hSt (hX 2 : iv 0 700 (x0 2)) (rs_39 hRr hk_0 (iv_w b57 (by decide) (by decide)) c41 c50) c55 c61 c66 (Or.inl ⟨c70, rfl⟩)), (show y0_0 1 = x0 1 from htp_0), (show y0_0 10 = x0 10 from hfp_0), (show y0_0 21 = x0 21 from hnd_0), (show y0_0 25 = x0 25 from hnt_0), (show y0_0 23 = x0 23 from hhm_0), by rw [ht]; exact hP9, hD9⟩, hS.F ht⟩) hS.2.2 dX11_stepOn_219
              · have b72 : iv 1 1 (isDg (byA q_tape (y0_0 3) (y0_0 2))) := iv_neLo c66 b65 ivk_0 (by decide) (by decide)
                have b73 : iv 48 57 (byA q_tape (y0_0 3) (y0_0 2)) := isDg_iv (iv_ne b72 ivk_0 (by decide))
                refine lv_aload_n hx hb dX11_stepOn_118 rfl (lv_at hl 1 rfl) ?_
                refine lv_iconst (v := 0) hx hb dX11_stepOn_119 ic_0 ?_
                refine va_put (D := (dC, dI)) (ci := 11) (v := .int 0) (ty := .int) (C := RX11) (T := TX11) (N := 61) hx hb hts hin11 tyX11 tyX11_ok nmX11 hown hK hP hD hS 0 rfl rfl 19 (by decide) hw_4 (fun _ h9 => h9) rfl (by decide +kernel) rfl rfl (Nat.le_of_ble_eq_true rfl) dX11_stepOn_120 (fun H locs hPa hDa hS => ?_)
                clear hP hD
                have hP : va_P (dC, dI) vwCl [(m0, .inr (11, oX11 ra (upd (upd y0_0 6 (y0_0 2)) 5 0))), (ra 13, .inl (kI, 700, .inl q_tape))] H := hPa
                have hD : va_D A [(m0, .inr (11, oX11 ra (upd (upd y0_0 6 (y0_0 2)) 5 0))), (ra 13, .inl (kI, 700, .inl q_tape))] := hDa
                clear hPa hDa
                exact hJ123 _ (upd (upd y0_0 6 (y0_0 2)) 5 0) (byA q_tape (y0_0 3) (y0_0 2)) _ _ _ (Nat.lt_succ_self _) ((fI_u (fI_u hI0_0 (k := 6) ((iv_w b57 (by decide) (by decide)))) (k := 5) ((iv_w ivk_0 (by decide) (by decide))))) (b73) (b57) ((show (x0 2).toInt + 1 ≤ (y0_0 2).toInt ∨ ¬ isDg (byA q_tape (x0 3) (y0_0 2)) = 0 from Or.inr (by have q := c66; rw [hts_0] at q; exact q))) ((by subst hTQ; exact rs_123 hRr (rs_39 hRr hk_0 (iv_w b57 (by decide) (by decide)) c41 c50) (iv_w b57 (by decide) (by decide)) c55 c61 c66)) ((show (x0 2).toInt ≤ (y0_0 2).toInt from by omega)) ((show y0_0 3 = x0 3 from hts_0)) ((show y0_0 1 = x0 1 from htp_0)) ((show y0_0 10 = x0 10 from hfp_0)) ((show y0_0 21 = x0 21 from hnd_0)) ((show y0_0 25 = x0 25 from hnt_0)) ((show y0_0 23 = x0 23 from hhm_0)) (hP) (hD) hS (lv_sub hl [1, 0] rfl)
            · have b74 : iv 1 1 (isLt (byA q_tape (y0_0 3) (y0_0 2))) := iv_neLo c61 b60 ivk_0 (by decide) (by decide)
              have b75 : iv 97 122 (byA q_tape (y0_0 3) (y0_0 2)) := isLt_iv (iv_ne b74 ivk_0 (by decide))
              exact hJ76 _ (upd y0_0 6 (y0_0 2)) (byA q_tape (y0_0 3) (y0_0 2)) _ _ _ (Nat.lt_succ_self _) ((fI_u hI0_0 (k := 6) ((iv_w b57 (by decide) (by decide))))) (b75) (b57) ((show (x0 2).toInt + 1 ≤ (y0_0 2).toInt ∨ ¬ isLt (byA q_tape (x0 3) (y0_0 2)) = 0 from Or.inr (by have q := c61; rw [hts_0] at q; exact q))) ((by subst hTQ; exact rs_76 hRr (rs_39 hRr hk_0 (iv_w b57 (by decide) (by decide)) c41 c50) c55 c61)) ((show (x0 2).toInt ≤ (y0_0 2).toInt from by omega)) ((show y0_0 3 = x0 3 from hts_0)) ((show y0_0 1 = x0 1 from htp_0)) ((show y0_0 10 = x0 10 from hfp_0)) ((show y0_0 21 = x0 21 from hnd_0)) ((show y0_0 25 = x0 25 from hnt_0)) ((show y0_0 23 = x0 23 from hhm_0)) (hP) (hD) hS (lv_sub hl [1, 0] rfl)
          · have b76 : iv (-1) (-1) (byA q_tape (y0_0 3) (y0_0 2)) := iv_eqL c55 ivk_m1
            refine lv_aload_n hx hb dX11_stepOn_61 rfl (lv_at hl 1 rfl) ?_
            refine lv_iconst (v := 0) hx hb dX11_stepOn_62 ic_0 ?_
            refine va_put (D := (dC, dI)) (ci := 11) (v := .int 0) (ty := .int) (C := RX11) (T := TX11) (N := 61) hx hb hts hin11 tyX11 tyX11_ok nmX11 hown hK hP hD hS 0 rfl rfl 18 (by decide) hw_1 (fun _ h9 => h9) rfl (by decide +kernel) rfl rfl (Nat.le_of_ble_eq_true rfl) dX11_stepOn_63 (fun H locs hPa hDa hS => ?_)
            clear hP hD
            have hP : va_P (dC, dI) vwCl [(m0, .inr (11, oX11 ra (upd (upd y0_0 6 (y0_0 2)) 4 0))), (ra 13, .inl (kI, 700, .inl q_tape))] H := hPa
            have hD : va_D A [(m0, .inr (11, oX11 ra (upd (upd y0_0 6 (y0_0 2)) 4 0))), (ra 13, .inl (kI, 700, .inl q_tape))] := hDa
            clear hPa hDa
            refine lv_goto (tgt := 211) hx hb dX11_stepOn_66 rfl ?_
            refine lv_aload_n hx hb dX11_stepOn_211 rfl (lv_at hl 1 rfl) ?_
            refine lv_aload_n hx hb dX11_stepOn_212 rfl (lv_at hl 1 rfl) ?_
            refine va_get (D := (dC, dI)) (ci := 11) (v := .int (y0_0 2)) (C := RX11) (T := TX11) (N := 61) hx hb hts hin11 hown hK hP 0 rfl rfl 16 (Nat.le_of_ble_eq_true rfl) hw_0 (fun _ h9 => h9) rfl dX11_stepOn_213 ?_
            refine va_put (D := (dC, dI)) (ci := 11) (v := .int (y0_0 2)) (ty := .int) (C := RX11) (T := TX11) (N := 61) hx hb hts hin11 tyX11 tyX11_ok nmX11 hown hK hP hD hS 0 rfl rfl 21 (by decide) hw_2 (fun _ h9 => h9) rfl (by decide +kernel) rfl rfl (Nat.le_of_ble_eq_true rfl) dX11_stepOn_216 (fun H locs hPa hDa hS => ?_)
            clear hP hD
            have hP : va_P (dC, dI) vwCl [(m0, .inr (11, oX11 ra (upd (upd (upd y0_0 6 (y0_0 2)) 4 0) 7 (y0_0 2)))), (ra 13, .inl (kI, 700, .inl q_tape))] H := hPa
            have hD : va_D A [(m0, .inr (11, oX11 ra (upd (upd (upd y0_0 6 (y0_0 2)) 4 0) 7 (y0_0 2)))), (ra 13, .inl (kI, 700, .inl q_tape))] := hDa
            clear hPa hDa
            have hP9 := hP
            have hD9 := hD
            exact W.vret hx hb hr (fun t ht hW => ⟨⟨(), rfl, trivial, upd (upd (upd y0_0 6 (y0_0 2)) 4 0) 7 (y0_0 2), (fI_u (fI_u (fI_u hI0_0 (k := 6) ((hI0_0 2 : iv 0 700 (y0_0 2)))) (k := 4) ((iv_w ivk_0 (by decide) (by decide)))) (k := 7) ((hI0_0 2 : iv 0 700 (y0_0 2)))), (show (x0 2).toInt ≤ (y0_0 2).toInt from by omega), (show y0_0 3 = x0 3 from hts_0), (show 0 = 0 ∨ (x0 2).toInt + 1 ≤ (y0_0 2).toInt from Or.inl rfl), (by subst hTQ; exact rs_end hRr hSt hq_tape (hX 2 : iv 0 700 (x0 2)) (rs_39 hRr hk_0 (hI0_0 2 : iv 0 700 (y0_0 2)) c41 c50) c55), (show y0_0 1 = x0 1 from htp_0), (show y0_0 10 = x0 10 from hfp_0), (show y0_0 21 = x0 21 from hnd_0), (show y0_0 25 = x0 25 from hnt_0), (show y0_0 23 = x0 23 from hhm_0), by rw [ht]; exact hP9, hD9⟩, hS.F ht⟩) hS.2.2 dX11_stepOn_219
        · have b77 : iv 10 10 (byA q_tape (y0_0 3) (y0_0 2)) := iv_eqL c50 ivk_10
          have b78 : iv 0 699 (y0_0 2) := (hq39).resolve_left (iv_ne b77 ivk_m1 (by decide))
          refine lv_aload_n hx hb dX11_stepOn_26 rfl (lv_at hl 0 rfl) ?_
          refine lv_dup hx hb dX11_stepOn_27 rfl ?_
          refine va_get (D := (dC, dI)) (ci := 11) (v := .int (y0_0 2)) (C := RX11) (T := TX11) (N := 61) hx hb hts hin11 hown hK hP 0 rfl rfl 16 (Nat.le_of_ble_eq_true rfl) hw_0 (fun _ h9 => h9) rfl dX11_stepOn_28 ?_
          refine lv_iconst (v := 1) hx hb dX11_stepOn_31 ic_1 ?_
          refine lv_iadd hx hb dX11_stepOn_32 ?_
          have b79 : iv 1 700 ((y0_0 2) + 1) := iv_add b78 ivk_1 (by decide) (by decide) (by decide) (by decide)
          have t80 : ((y0_0 2) + 1).toInt = (y0_0 2).toInt + 1 := iv_addc b78 (by decide) (by decide) (by decide)
          refine va_put (D := (dC, dI)) (ci := 11) (v := .int ((y0_0 2) + 1)) (ty := .int) (C := RX11) (T := TX11) (N := 61) hx hb hts hin11 tyX11 tyX11_ok nmX11 hown hK hP hD hS 0 rfl rfl 16 (by decide) hw_0 (fun _ h9 => h9) rfl (by decide +kernel) rfl rfl (Nat.le_of_ble_eq_true rfl) dX11_stepOn_33 (fun H locs hPa hDa hS => ?_)
          clear hP hD
          have hP : va_P (dC, dI) vwCl [(m0, .inr (11, oX11 ra (upd y0_0 2 ((y0_0 2) + 1)))), (ra 13, .inl (kI, 700, .inl q_tape))] H := hPa
          have hD : va_D A [(m0, .inr (11, oX11 ra (upd y0_0 2 ((y0_0 2) + 1)))), (ra 13, .inl (kI, 700, .inl q_tape))] := hDa
          clear hPa hDa
          refine lv_goto (tgt := 0) hx hb dX11_stepOn_36 rfl ?_
          exact ih0 (upd y0_0 2 ((y0_0 2) + 1)) _ _ _ (ms_up (c := 1) (d := 0) b78 hm0 (by decide) (iv_addc b78 (by decide) (by decide) (by decide)) (by decide) rfl) ((fI_u hI0_0 (k := 2) ((iv_w b79 (by decide) (by decide))))) ((by subst hTQ; exact rs_bl hRr hk_0 (iv_w b78 (by decide) (by decide)) (Or.inr c50))) ((show (x0 2).toInt ≤ ((y0_0 2) + 1).toInt from by omega)) ((show y0_0 3 = x0 3 from hts_0)) ((show y0_0 1 = x0 1 from htp_0)) ((show y0_0 10 = x0 10 from hfp_0)) ((show y0_0 21 = x0 21 from hnd_0)) ((show y0_0 25 = x0 25 from hnt_0)) ((show y0_0 23 = x0 23 from hhm_0)) (hP) (hD) hS (lv_sub hl [0] rfl)
  exact hJ0 _ x0 _ _ _ (Nat.lt_succ_self _) (hX) ((show R0 tT nN x0 x0 from rs_0)) ((show (x0 2).toInt ≤ (x0 2).toInt from by omega)) ((show x0 3 = x0 3 from rfl)) ((show x0 1 = x0 1 from rfl)) ((show x0 10 = x0 10 from rfl)) ((show x0 21 = x0 21 from rfl)) ((show x0 25 = x0 25 from rfl)) ((show x0 23 = x0 23 from rfl)) (hP) (hD) hS (lv_sub hl [0] rfl)
def rm_s11_is : Room := { frames := 4, cells := 0, slots := 0, locals := 85 }
set_option maxHeartbeats 4000000 in
set_option maxRecDepth 100000 in
theorem s11_is (l : Launch) (dC : Nat → ClassId) (dI : Nat → Nat → Nat) (kB kI kJ kZ kC kS : ClassId) (sz : Nat) (adK : Nat → Nat) (adV : Nat → Nat) (m0 : Nat) (ra : Nat → Nat) (x0 : Nat → Int32) (q_tape : Nat → Int32) (i : Nat) (tT : Nat → Int32) (nN : Int32) (sS : StT) (hX : fI lX11 hX11 x0) (hq_tape : fI (fun _ => 0) (fun _ => 255) q_tape) (hi : i < 10) (hRr : RRd tT nN x0 sS) (hTQ : tT = q_tape) : Met l yX11_is wsX11_is rm_s11_is (va_Pc [.ref m0, .ref (adK i)] (fun U => U.heap.size = sz ∧ va_P (dC, dI) vwCl [(m0, .inr (11, oX11 ra x0)), (ra 13, .inl (kI, 700, .inl q_tape))] U.heap ∧ kE dC dI kB kI kJ kZ kC kS U ∧ va_D (fun _ => True) [(m0, .inr (11, oX11 ra x0)), (ra 13, .inl (kI, 700, .inl q_tape))] ∧ kL adK adV (va_A [(m0, .inr (11, oX11 ra x0)), (ra 13, .inl (kI, 700, .inl q_tape))] sz) U)) (va_Qi (fun (r : Int32) (_ : Unit) => r = wS tT i sS ∧ iv 0 1 r) (fun _ t => va_P (dC, dI) vwCl [(m0, .inr (11, oX11 ra x0)), (ra 13, .inl (kI, 700, .inl q_tape))] t.heap ∧ va_D (va_A [(m0, .inr (11, oX11 ra x0)), (ra 13, .inl (kI, 700, .inl q_tape))] sz) [(m0, .inr (11, oX11 ra x0)), (ra 13, .inl (kI, 700, .inl q_tape))]) (va_A [(m0, .inr (11, oX11 ra x0)), (ra 13, .inl (kI, 700, .inl q_tape))] sz)) 0 0 (va_A [(m0, .inr (11, oX11 ra x0)), (ra 13, .inl (kI, 700, .inl q_tape))] sz) := by
  refine Met.ofW (cc := cX11_is) (maxL := 4) (ret := (some .boolean)) (by decide) rfl ?_
  intro p e s m args0 below meth c s₁ B hml hv
  obtain ⟨hargs, hsz, hP, hE, hD0, hKL⟩ := hv
  have hx := B.exec
  have hb := B.bytes
  have hr := B.returns
  have hts := atoms_spec (ws := wsX11_is) B.pre
  have hown : s.vm.findClass RX11 = some m.cls := findClass_of_methodNamed B.named
  have hlocks := B.notSynchronized
  have hK := hE.1
  have hin11 : ∀ w ∈ wsX110, w ∈ wsX11_is := fun _ h9 => List.mem_cons_of_mem _ (List.mem_append_right _ h9)
  have hw_0 := hts (.fieldLink RX11 66 "PathProberModel" "tape" "[I") (List.mem_of_getElem? (i := 5) rfl)
  have hw_1 := hts (.fieldLink RX11 158 "PathProberModel" "begins" "I") (List.mem_of_getElem? (i := 4) rfl)
  have hw_2 := hts (.fieldLink RX11 184 "PathProberModel" "bad" "I") (List.mem_of_getElem? (i := 1) rfl)
  have hw_3 := hts (.fieldLink RX11 161 "PathProberModel" "token" "I") (List.mem_of_getElem? (i := 2) rfl)
  have hw_4 := hts (.fieldLink RX11 181 "PathProberModel" "stops" "I") (List.mem_of_getElem? (i := 3) rfl)
  subst hsz
  have hD := hD0.self (sz := s.heap.size)
  generalize hAe : va_A [(m0, .inr (11, oX11 ra x0)), (ra 13, .inl (kI, 700, .inl q_tape))] s.heap.size = A at hD hKL ⊢
  have hA : ∀ q : Nat, s.heap.size ≤ q → A q := fun q h => by rw [← hAe]; exact Or.inr h
  have hS : va_S A s.heap s.heap [] := va_S.rf
  have hP : va_P (dC, dI) vwCl [(m0, .inr (11, oX11 ra x0)), (ra 13, .inl (kI, 700, .inl q_tape))] s.heap := hP
  have hl := lv_entry ([.ref m0, .ref (adK i)]) (n := 4) (Nat.le_of_ble_eq_true rfl)
  have hla : entryFrame m args0 4 = entryFrame m ([.ref m0, .ref (adK i)] : List Value).toArray 4 := by rw [hargs]
  rw [hla, lg_entry_eq]
  generalize (lg_sl ([.ref m0, .ref (adK i)]) ++ List.replicate (4 - (lg_sl ([.ref m0, .ref (adK i)])).length) Slot.unset).toArray = ls at hl ⊢
  have hl : lv_has ls 4 [(0, .ref m0), (1, .ref (adK i))] := hl
  have hJ39 : ∀ (n : Nat) (v39_loc2 : Int32) (v39_loc3 : Int32) (H : Heap) (locs : List Loc) (ls : Array Slot), (699 - v39_loc3.toInt).toNat < n → iv 0 1 v39_loc2 → iv 0 699 v39_loc3 → (v39_loc2 = 0 ∨ nI (lenL.getD i 0) = x0 7 - x0 6) → (IsR tT i x0 sS v39_loc2 v39_loc3) → (x0 1 = x0 1) → (x0 10 = x0 10) → (x0 21 = x0 21) → (x0 25 = x0 25) → (x0 23 = x0 23) → va_P (dC, dI) vwCl [(m0, .inr (11, oX11 ra x0)), (ra 13, .inl (kI, 700, .inl q_tape))] H → va_D A [(m0, .inr (11, oX11 ra x0)), (ra 13, .inl (kI, 700, .inl q_tape))] → va_S A s.heap H locs → lv_has ls 4 [(0, .ref m0), (1, .ref (adK i)), (2, .int v39_loc2), (3, .int v39_loc3)] → W p l e (headSpec wsX11_is rm_s11_is).room s m args0 below meth c H locs (0) (0) (MQ below (va_Qi (fun (r : Int32) (_ : Unit) => r = wS tT i sS ∧ iv 0 1 r) (fun _ t => va_P (dC, dI) vwCl [(m0, .inr (11, oX11 ra x0)), (ra 13, .inl (kI, 700, .inl q_tape))] t.heap ∧ va_D A [(m0, .inr (11, oX11 ra x0)), (ra 13, .inl (kI, 700, .inl q_tape))]) A) args0 s 0 0 A) (F0 m 39 ls []) := by
    intro n
    induction n with
    | zero => intro v39_loc2 v39_loc3 H locs ls hm39; exact absurd hm39 (Nat.not_lt_zero _)
    | succ n ih39 =>
      intro v39_loc2 v39_loc3 H locs ls hm39 h39_1 h39_2 hie_39 hir_39 htp_39 hfp_39 hnd_39 hnt_39 hhm_39 hP hD hS hl
      refine lv_iload_n hx hb dX11_is_39 rfl (lv_at hl 2 rfl) ?_
      refine lv_if_eq (tgt := 82) hx hb dX11_is_40 rfl (fun c1 => ?_) (fun c1 => ?_)
      · have b2 : iv 0 0 v39_loc2 := iv_eqL c1 ivk_0
        refine lv_iload_n hx hb dX11_is_82 rfl (lv_at hl 2 rfl) ?_
        have hP9 := hP
        have hD9 := hD
        exact W.zret (v := v39_loc2) (ty := .boolean) hx hb hr (z_nar (iv_w b2 (by decide) (by decide))) (fun t ht hW => ⟨⟨v39_loc2, (), rfl, ⟨is_e0 hir_39 c1, (iv_w b2 (by decide) (by decide))⟩, by rw [ht]; exact hP9, hD9⟩, hS.F ht⟩) hS.2.2 dX11_is_83
      · have b3 : iv 1 1 v39_loc2 := iv_neLo c1 h39_1 ivk_0 (by decide) (by decide)
        have hr4 : nI (lenL.getD i 0) = x0 7 - x0 6 := hie_39.resolve_left (iv_ne b3 ivk_0 (by decide))
        refine lv_iload_n hx hb dX11_is_43 rfl (lv_at hl 3 rfl) ?_
        refine lv_aload_n hx hb dX11_is_44 rfl (lv_at hl 1 rfl) ?_
        obtain ⟨hPc, hDc, hFc, hJn⟩ := cl_a (wc := []) (wr := [(m0, .inr (11, oX11 ra x0)), (ra 13, .inl (kI, 700, .inl q_tape))]) hP hD hS hA [] [0, 1] rfl rfl (by decide +kernel)
        refine va_calli (va_runV (As := []) (rest := [.int v39_loc3]) ⟨hx, hb, hml, hown, hts⟩ (sJ_length l dC dI kB kI kJ kZ kC kS H.size adK adV i (hi)) (cwV 0 hts gX11_is_J0_length_8abf5 rfl rfl rfl (by decide +kernel) ⟨Nat.le_of_ble_eq_true rfl, Nat.le_of_ble_eq_true rfl⟩) ⟨fun a U g mk q => by obtain ⟨q0, q1, qP, qE, qD, qL⟩ := q; exact ⟨q0, q1, qP, kE_call qE, qD, kL_call qL⟩, kS_recv hKL.1 hi hS, fun U hU hW => ⟨rfl, by rw [hU], by rw [hU]; exact hPc, kE_warm hW hE, hDc.weaken (fun _ _ _ _ => trivial), kL_at hKL hS hFc hW hU⟩⟩ rfl rfl hl.1 rfl (lv_room (Nat.le_of_ble_eq_true rfl)) dX11_is_45 ⟨Nat.le_of_ble_eq_true rfl, Nat.le_of_ble_eq_true rfl⟩) hS (fun q _ h => hFc q h) hFc (fun r5 u t H locs ht hvm w6 hB hz1 hk1 hS => ?_)
        obtain ⟨hP1, hD1⟩ := hB
        try dsimp only at w6
        obtain ⟨hPa, hDa⟩ := hJn (w1 := []) hk1 ht hP1 hD1
        clear hP hD hPc hDc hFc hJn hP1 hD1 hk1
        have hP : va_P (dC, dI) vwCl [(m0, .inr (11, oX11 ra x0)), (ra 13, .inl (kI, 700, .inl q_tape))] H := hPa
        have hD : va_D A [(m0, .inr (11, oX11 ra x0)), (ra 13, .inl (kI, 700, .inl q_tape))] := hDa
        clear hPa hDa
        refine W.widen (k := 0) (n := 0) (Nat.le_of_ble_eq_true rfl) (Nat.le_of_ble_eq_true rfl) ?_
        obtain ⟨w6, b7⟩ := w6
        subst w6
        refine lv_icmp_ge (tgt := 82) hx hb dX11_is_48 rfl (fun c8 => ?_) (fun c8 => ?_)
        · refine lv_iload_n hx hb dX11_is_82 rfl (lv_at hl 2 rfl) ?_
          have hP9 := hP
          have hD9 := hD
          exact W.zret (v := v39_loc2) (ty := .boolean) hx hb hr (z_nar (iv_w b3 (by decide) (by decide))) (fun t ht hW => ⟨⟨v39_loc2, (), rfl, ⟨is_e1 hRr hir_39 c1 c8, (iv_w b3 (by decide) (by decide))⟩, by rw [ht]; exact hP9, hD9⟩, hS.F ht⟩) hS.2.2 dX11_is_83
        · have b9 : iv 0 698 v39_loc3 := iv_ltL (Int32.not_le.mp c8) h39_2 b7 (by decide) (by decide)
          have b10 : iv 1 699 (nI (lenL.getD i 0)) := iv_ltR (Int32.not_le.mp c8) h39_2 b7 (by decide) (by decide)
          refine lv_aload_n hx hb dX11_is_51 rfl (lv_at hl 1 rfl) ?_
          refine lv_iload_n hx hb dX11_is_52 rfl (lv_at hl 3 rfl) ?_
          obtain ⟨hPc, hDc, hFc, hJn⟩ := cl_a (wc := []) (wr := [(m0, .inr (11, oX11 ra x0)), (ra 13, .inl (kI, 700, .inl q_tape))]) hP hD hS hA [] [0, 1] rfl rfl (by decide +kernel)
          refine va_calli (va_runV (As := [.int v39_loc3]) (rest := []) ⟨hx, hb, hml, hown, hts⟩ (sJ_charAt l dC dI kB kI kJ kZ kC kS H.size adK adV i v39_loc3 (hi) ((iv_w b9 (by decide) (by decide))) ((Int32.not_le.mp c8))) (cwV 1 hts gX11_is_J0_charAt_5068e rfl rfl rfl (by decide +kernel) ⟨Nat.le_of_ble_eq_true rfl, Nat.le_of_ble_eq_true rfl⟩) ⟨fun a U g mk q => by obtain ⟨q0, q1, qP, qE, qD, qL⟩ := q; exact ⟨q0, q1, qP, kE_call qE, qD, kL_call qL⟩, kS_recv hKL.1 hi hS, fun U hU hW => ⟨rfl, by rw [hU], by rw [hU]; exact hPc, kE_warm hW hE, hDc.weaken (fun _ _ _ _ => trivial), kL_at hKL hS hFc hW hU⟩⟩ rfl rfl hl.1 rfl (lv_room (Nat.le_of_ble_eq_true rfl)) dX11_is_53 ⟨Nat.le_of_ble_eq_true rfl, Nat.le_of_ble_eq_true rfl⟩) hS (fun q _ h => hFc q h) hFc (fun r11 u t H locs ht hvm w12 hB hz1 hk1 hS => ?_)
          obtain ⟨hP1, hD1⟩ := hB
          try dsimp only at w12
          obtain ⟨hPa, hDa⟩ := hJn (w1 := []) hk1 ht hP1 hD1
          clear hP hD hPc hDc hFc hJn hP1 hD1 hk1
          have hP : va_P (dC, dI) vwCl [(m0, .inr (11, oX11 ra x0)), (ra 13, .inl (kI, 700, .inl q_tape))] H := hPa
          have hD : va_D A [(m0, .inr (11, oX11 ra x0)), (ra 13, .inl (kI, 700, .inl q_tape))] := hDa
          clear hPa hDa
          refine W.widen (k := 0) (n := 0) (Nat.le_of_ble_eq_true rfl) (Nat.le_of_ble_eq_true rfl) ?_
          subst w12
          refine lv_aload_n hx hb dX11_is_56 rfl (lv_at hl 0 rfl) ?_
          refine va_get (D := (dC, dI)) (ci := 11) (v := .ref (ra 13)) (C := RX11) (T := TX11) (N := 61) hx hb hts hin11 hown hK hP 0 rfl rfl 14 (Nat.le_of_ble_eq_true rfl) hw_0 (fun _ h9 => h9) rfl dX11_is_57 ?_
          refine lv_aload_n hx hb dX11_is_60 rfl (lv_at hl 0 rfl) ?_
          refine va_get (D := (dC, dI)) (ci := 11) (v := .int (x0 6)) (C := RX11) (T := TX11) (N := 61) hx hb hts hin11 hown hK hP 0 rfl rfl 20 (Nat.le_of_ble_eq_true rfl) hw_1 (fun _ h9 => h9) rfl dX11_is_61 ?_
          refine lv_iload_n hx hb dX11_is_64 rfl (lv_at hl 3 rfl) ?_
          refine lv_iadd hx hb dX11_is_65 ?_
          have b13 : iv 0 699 ((x0 6) + v39_loc3) := is_ix (hX 6 : iv 0 700 (x0 6)) (hX 7 : iv 0 700 (x0 7)) (iv_w b9 (by decide) (by decide)) hr4 (Int32.not_le.mp c8)
          refine va_iald hx hb hK hP 1 1 rfl rfl (iv_in b13 (by decide) (by decide)) dX11_is_66 ?_
          have b14 : iv 0 255 (q_tape ((x0 6) + v39_loc3).toNatClampNeg) := hq_tape _
          refine lv_icmp_ne (tgt := 74) hx hb dX11_is_67 rfl (fun c15 => ?_) (fun c15 => ?_)
          · refine lv_iconst (v := 0) hx hb dX11_is_74 ic_0 ?_
            refine lv_istore_n (lv' := [(2, .int 0), (0, .ref m0), (1, .ref (adK i)), (3, .int v39_loc3)]) hx hb dX11_is_75 rfl hl (Nat.le_of_ble_eq_true rfl) rfl (fun ls hl => ?_)
            refine lv_iinc (v := v39_loc3 + Int32.ofInt 1) (lv' := [(3, .int (v39_loc3 + Int32.ofInt 1)), (2, .int 0), (0, .ref m0), (1, .ref (adK i))]) hx hb dX11_is_76 hl (k := 3) rfl (rfl) (Nat.le_of_ble_eq_true rfl) rfl (fun ls hl => ?_)
            have b16 : iv 1 699 (v39_loc3 + Int32.ofInt 1) := iv_add b9 ivo_1 (by decide) (by decide) (by decide) (by decide)
            refine lv_goto (tgt := 39) hx hb dX11_is_79 rfl ?_
            exact ih39 0 (v39_loc3 + Int32.ofInt 1) _ _ _ (ms_up (c := 1) (d := 0) b9 hm39 (by decide) (iv_inc 1 b9 (by decide) (by decide) (by decide) (by decide)) (by decide) rfl) ((iv_w ivk_0 (by decide) (by decide))) ((iv_w b16 (by decide) (by decide))) ((show 0 = 0 ∨ nI (lenL.getD i 0) = x0 7 - x0 6 from hie_39.elim (fun w => absurd w c1) Or.inr)) ((show IsR tT i x0 sS 0 (v39_loc3 + Int32.ofInt 1) from (by subst hTQ; exact is_n hRr hir_39 c1 (hX 6 : iv 0 700 (x0 6)) (iv_w b9 (by decide) (by decide)) (Int32.not_le.mp c8) c15))) ((show x0 1 = x0 1 from rfl)) ((show x0 10 = x0 10 from rfl)) ((show x0 21 = x0 21 from rfl)) ((show x0 25 = x0 25 from rfl)) ((show x0 23 = x0 23 from rfl)) (hP) (hD) hS (lv_sub hl [2, 3, 1, 0] rfl)
          · have b17 : iv 0 255 ((bytL.getD i []).getD v39_loc3.toNatClampNeg 0) := iv_eqL c15 b14
            refine lv_iconst (v := 1) hx hb dX11_is_70 ic_1 ?_
            refine lv_goto (tgt := 75) hx hb dX11_is_71 rfl ?_
            refine lv_istore_n (lv' := [(2, .int 1), (0, .ref m0), (1, .ref (adK i)), (3, .int v39_loc3)]) hx hb dX11_is_75 rfl hl (Nat.le_of_ble_eq_true rfl) rfl (fun ls hl => ?_)
            refine lv_iinc (v := v39_loc3 + Int32.ofInt 1) (lv' := [(3, .int (v39_loc3 + Int32.ofInt 1)), (2, .int 1), (0, .ref m0), (1, .ref (adK i))]) hx hb dX11_is_76 hl (k := 3) rfl (rfl) (Nat.le_of_ble_eq_true rfl) rfl (fun ls hl => ?_)
            have b18 : iv 1 699 (v39_loc3 + Int32.ofInt 1) := iv_add b9 ivo_1 (by decide) (by decide) (by decide) (by decide)
            refine lv_goto (tgt := 39) hx hb dX11_is_79 rfl ?_
            exact ih39 1 (v39_loc3 + Int32.ofInt 1) _ _ _ (ms_up (c := 1) (d := 0) b9 hm39 (by decide) (iv_inc 1 b9 (by decide) (by decide) (by decide) (by decide)) (by decide) rfl) ((iv_w ivk_1 (by decide) (by decide))) ((iv_w b18 (by decide) (by decide))) ((show 1 = 0 ∨ nI (lenL.getD i 0) = x0 7 - x0 6 from hie_39.elim (fun w => absurd w c1) Or.inr)) ((show IsR tT i x0 sS 1 (v39_loc3 + Int32.ofInt 1) from (by subst hTQ; exact is_y hir_39 c1 (hX 6 : iv 0 700 (x0 6)) (iv_w b9 (by decide) (by decide)) c15))) ((show x0 1 = x0 1 from rfl)) ((show x0 10 = x0 10 from rfl)) ((show x0 21 = x0 21 from rfl)) ((show x0 25 = x0 25 from rfl)) ((show x0 23 = x0 23 from rfl)) (hP) (hD) hS (lv_sub hl [2, 3, 1, 0] rfl)
  refine lv_aload_n hx hb dX11_is_0 rfl (lv_at hl 0 rfl) ?_
  refine va_get (D := (dC, dI)) (ci := 11) (v := .int (x0 8)) (C := RX11) (T := TX11) (N := 61) hx hb hts hin11 hown hK hP 0 rfl rfl 22 (Nat.le_of_ble_eq_true rfl) hw_2 (fun _ h9 => h9) rfl dX11_is_1 ?_
  refine lv_if_ne (tgt := 35) hx hb dX11_is_4 rfl (fun c19 => ?_) (fun c19 => ?_)
  · have b20 : iv 1 5 (x0 8) := iv_neLo c19 (hX 8 : iv 0 5 (x0 8)) ivk_0 (by decide) (by decide)
    refine lv_iconst (v := 0) hx hb dX11_is_35 ic_0 ?_
    refine lv_istore_n (lv' := [(2, .int 0), (0, .ref m0), (1, .ref (adK i))]) hx hb dX11_is_36 rfl hl (Nat.le_of_ble_eq_true rfl) rfl (fun ls hl => ?_)
    refine lv_iconst (v := 0) hx hb dX11_is_37 ic_0 ?_
    refine lv_istore_n (lv' := [(3, .int 0), (2, .int 0), (0, .ref m0), (1, .ref (adK i))]) hx hb dX11_is_38 rfl hl (Nat.le_of_ble_eq_true rfl) rfl (fun ls hl => ?_)
    exact hJ39 _ 0 0 _ _ _ (Nat.lt_succ_self _) ((iv_w ivk_0 (by decide) (by decide))) ((iv_w ivk_0 (by decide) (by decide))) ((show 0 = 0 ∨ nI (lenL.getD i 0) = x0 7 - x0 6 from Or.inl rfl)) ((show IsR tT i x0 sS 0 0 from is_b hRr c19)) ((show x0 1 = x0 1 from rfl)) ((show x0 10 = x0 10 from rfl)) ((show x0 21 = x0 21 from rfl)) ((show x0 25 = x0 25 from rfl)) ((show x0 23 = x0 23 from rfl)) (hP) (hD) hS (lv_sub hl [2, 3, 1, 0] rfl)
  · have b21 : iv 0 0 (x0 8) := iv_eqL c19 ivk_0
    refine lv_aload_n hx hb dX11_is_7 rfl (lv_at hl 0 rfl) ?_
    refine va_get (D := (dC, dI)) (ci := 11) (v := .int (x0 4)) (C := RX11) (T := TX11) (N := 61) hx hb hts hin11 hown hK hP 0 rfl rfl 18 (Nat.le_of_ble_eq_true rfl) hw_3 (fun _ h9 => h9) rfl dX11_is_8 ?_
    refine lv_iconst (v := 1) hx hb dX11_is_11 ic_1 ?_
    refine lv_icmp_ne (tgt := 35) hx hb dX11_is_12 rfl (fun c22 => ?_) (fun c22 => ?_)
    · refine lv_iconst (v := 0) hx hb dX11_is_35 ic_0 ?_
      refine lv_istore_n (lv' := [(2, .int 0), (0, .ref m0), (1, .ref (adK i))]) hx hb dX11_is_36 rfl hl (Nat.le_of_ble_eq_true rfl) rfl (fun ls hl => ?_)
      refine lv_iconst (v := 0) hx hb dX11_is_37 ic_0 ?_
      refine lv_istore_n (lv' := [(3, .int 0), (2, .int 0), (0, .ref m0), (1, .ref (adK i))]) hx hb dX11_is_38 rfl hl (Nat.le_of_ble_eq_true rfl) rfl (fun ls hl => ?_)
      exact hJ39 _ 0 0 _ _ _ (Nat.lt_succ_self _) ((iv_w ivk_0 (by decide) (by decide))) ((iv_w ivk_0 (by decide) (by decide))) ((show 0 = 0 ∨ nI (lenL.getD i 0) = x0 7 - x0 6 from Or.inl rfl)) ((show IsR tT i x0 sS 0 0 from is_t hRr c19 c22)) ((show x0 1 = x0 1 from rfl)) ((show x0 10 = x0 10 from rfl)) ((show x0 21 = x0 21 from rfl)) ((show x0 25 = x0 25 from rfl)) ((show x0 23 = x0 23 from rfl)) (hP) (hD) hS (lv_sub hl [2, 3, 1, 0] rfl)
    · have b23 : iv 1 1 (x0 4) := iv_eqL c22 ivk_1
      refine lv_aload_n hx hb dX11_is_15 rfl (lv_at hl 1 rfl) ?_
      obtain ⟨hPc, hDc, hFc, hJn⟩ := cl_a (wc := []) (wr := [(m0, .inr (11, oX11 ra x0)), (ra 13, .inl (kI, 700, .inl q_tape))]) hP hD hS hA [] [0, 1] rfl rfl (by decide +kernel)
      refine va_calli (va_runV (As := []) (rest := []) ⟨hx, hb, hml, hown, hts⟩ (sJ_length l dC dI kB kI kJ kZ kC kS s.heap.size adK adV i (hi)) (cwV 0 hts gX11_is_J0_length_8abf5 rfl rfl rfl (by decide +kernel) ⟨Nat.le_of_ble_eq_true rfl, Nat.le_of_ble_eq_true rfl⟩) ⟨fun a U g mk q => by obtain ⟨q0, q1, qP, qE, qD, qL⟩ := q; exact ⟨q0, q1, qP, kE_call qE, qD, kL_call qL⟩, kS_recv hKL.1 hi hS, fun U hU hW => ⟨rfl, by rw [hU], by rw [hU]; exact hPc, kE_warm hW hE, hDc.weaken (fun _ _ _ _ => trivial), kL_at hKL hS hFc hW hU⟩⟩ rfl rfl hl.1 rfl (lv_room (Nat.le_of_ble_eq_true rfl)) dX11_is_16 ⟨Nat.le_of_ble_eq_true rfl, Nat.le_of_ble_eq_true rfl⟩) hS (fun q _ h => hFc q h) hFc (fun r24 u t H locs ht hvm w25 hB hz1 hk1 hS => ?_)
      obtain ⟨hP1, hD1⟩ := hB
      try dsimp only at w25
      obtain ⟨hPa, hDa⟩ := hJn (w1 := []) hk1 ht hP1 hD1
      clear hP hD hPc hDc hFc hJn hP1 hD1 hk1
      have hP : va_P (dC, dI) vwCl [(m0, .inr (11, oX11 ra x0)), (ra 13, .inl (kI, 700, .inl q_tape))] H := hPa
      have hD : va_D A [(m0, .inr (11, oX11 ra x0)), (ra 13, .inl (kI, 700, .inl q_tape))] := hDa
      clear hPa hDa
      refine W.widen (k := 0) (n := 0) (Nat.le_of_ble_eq_true rfl) (Nat.le_of_ble_eq_true rfl) ?_
      obtain ⟨w25, b26⟩ := w25
      subst w25
      refine lv_aload_n hx hb dX11_is_19 rfl (lv_at hl 0 rfl) ?_
      refine va_get (D := (dC, dI)) (ci := 11) (v := .int (x0 7)) (C := RX11) (T := TX11) (N := 61) hx hb hts hin11 hown hK hP 0 rfl rfl 21 (Nat.le_of_ble_eq_true rfl) hw_4 (fun _ h9 => h9) rfl dX11_is_20 ?_
      refine lv_aload_n hx hb dX11_is_23 rfl (lv_at hl 0 rfl) ?_
      refine va_get (D := (dC, dI)) (ci := 11) (v := .int (x0 6)) (C := RX11) (T := TX11) (N := 61) hx hb hts hin11 hown hK hP 0 rfl rfl 20 (Nat.le_of_ble_eq_true rfl) hw_1 (fun _ h9 => h9) rfl dX11_is_24 ?_
      refine lv_isub hx hb dX11_is_27 ?_
      refine lv_icmp_ne (tgt := 35) hx hb dX11_is_28 rfl (fun c27 => ?_) (fun c27 => ?_)
      · refine lv_iconst (v := 0) hx hb dX11_is_35 ic_0 ?_
        refine lv_istore_n (lv' := [(2, .int 0), (0, .ref m0), (1, .ref (adK i))]) hx hb dX11_is_36 rfl hl (Nat.le_of_ble_eq_true rfl) rfl (fun ls hl => ?_)
        refine lv_iconst (v := 0) hx hb dX11_is_37 ic_0 ?_
        refine lv_istore_n (lv' := [(3, .int 0), (2, .int 0), (0, .ref m0), (1, .ref (adK i))]) hx hb dX11_is_38 rfl hl (Nat.le_of_ble_eq_true rfl) rfl (fun ls hl => ?_)
        exact hJ39 _ 0 0 _ _ _ (Nat.lt_succ_self _) ((iv_w ivk_0 (by decide) (by decide))) ((iv_w ivk_0 (by decide) (by decide))) ((show 0 = 0 ∨ nI (lenL.getD i 0) = x0 7 - x0 6 from Or.inl rfl)) ((show IsR tT i x0 sS 0 0 from is_l hRr c19 c27)) ((show x0 1 = x0 1 from rfl)) ((show x0 10 = x0 10 from rfl)) ((show x0 21 = x0 21 from rfl)) ((show x0 25 = x0 25 from rfl)) ((show x0 23 = x0 23 from rfl)) (hP) (hD) hS (lv_sub hl [2, 3, 1, 0] rfl)
      · have b28 : iv 0 699 ((x0 7) - (x0 6)) := iv_eqR c27 b26
        refine lv_iconst (v := 1) hx hb dX11_is_31 ic_1 ?_
        refine lv_goto (tgt := 36) hx hb dX11_is_32 rfl ?_
        refine lv_istore_n (lv' := [(2, .int 1), (0, .ref m0), (1, .ref (adK i))]) hx hb dX11_is_36 rfl hl (Nat.le_of_ble_eq_true rfl) rfl (fun ls hl => ?_)
        refine lv_iconst (v := 0) hx hb dX11_is_37 ic_0 ?_
        refine lv_istore_n (lv' := [(3, .int 0), (2, .int 1), (0, .ref m0), (1, .ref (adK i))]) hx hb dX11_is_38 rfl hl (Nat.le_of_ble_eq_true rfl) rfl (fun ls hl => ?_)
        exact hJ39 _ 1 0 _ _ _ (Nat.lt_succ_self _) ((iv_w ivk_1 (by decide) (by decide))) ((iv_w ivk_0 (by decide) (by decide))) ((show 1 = 0 ∨ nI (lenL.getD i 0) = x0 7 - x0 6 from Or.inr c27)) ((show IsR tT i x0 sS 1 0 from is_0 c19 c22 c27)) ((show x0 1 = x0 1 from rfl)) ((show x0 10 = x0 10 from rfl)) ((show x0 21 = x0 21 from rfl)) ((show x0 25 = x0 25 from rfl)) ((show x0 23 = x0 23 from rfl)) (hP) (hD) hS (lv_sub hl [2, 3, 1, 0] rfl)
def rm_s11_which : Room := { frames := 5, cells := 0, slots := 0, locals := 108 }
set_option maxHeartbeats 4000000 in
set_option maxRecDepth 100000 in
theorem s11_which (l : Launch) (dC : Nat → ClassId) (dI : Nat → Nat → Nat) (kB kI kJ kZ kC kS : ClassId) (sz : Nat) (adK : Nat → Nat) (adV : Nat → Nat) (m0 : Nat) (ra : Nat → Nat) (x0 : Nat → Int32) (q_tape : Nat → Int32) (b0 : Nat) (fw : Nat → Option Nat) (j0 : Nat) (tT : Nat → Int32) (nN : Int32) (sS : StT) (hX : fI lX11 hX11 x0) (hq_tape : fI (fun _ => 0) (fun _ => 255) q_tape) (hj : j0 ≤ 4) (hrow : ∀ k, k < 4 → fw k = some (adK (j0 + k))) (hRr : RRd tT nN x0 sS) (hTQ : tT = q_tape) : Met l yX11_which wsX11_which rm_s11_which (va_Pc [.ref m0, .ref b0] (fun U => U.heap.size = sz ∧ va_P (dC, dI) vwCl [(m0, .inr (11, oX11 ra x0)), (ra 13, .inl (kI, 700, .inl q_tape)), (b0, .inl (kS, 4, .inr (.inr (.inr (.inr fw)))))] U.heap ∧ kE dC dI kB kI kJ kZ kC kS U ∧ va_D (fun _ => True) [(m0, .inr (11, oX11 ra x0)), (ra 13, .inl (kI, 700, .inl q_tape)), (b0, .inl (kS, 4, .inr (.inr (.inr (.inr fw)))))] ∧ kL adK adV (va_A [(m0, .inr (11, oX11 ra x0)), (ra 13, .inl (kI, 700, .inl q_tape)), (b0, .inl (kS, 4, .inr (.inr (.inr (.inr fw)))))] sz) U)) (va_Qi (fun (r : Int32) (_ : Unit) => iv (-1) 3 r ∧ (r = whS tT j0 sS)) (fun _ t => va_P (dC, dI) vwCl [(m0, .inr (11, oX11 ra x0)), (ra 13, .inl (kI, 700, .inl q_tape)), (b0, .inl (kS, 4, .inr (.inr (.inr (.inr fw)))))] t.heap ∧ va_D (va_A [(m0, .inr (11, oX11 ra x0)), (ra 13, .inl (kI, 700, .inl q_tape)), (b0, .inl (kS, 4, .inr (.inr (.inr (.inr fw)))))] sz) [(m0, .inr (11, oX11 ra x0)), (ra 13, .inl (kI, 700, .inl q_tape)), (b0, .inl (kS, 4, .inr (.inr (.inr (.inr fw)))))]) (va_A [(m0, .inr (11, oX11 ra x0)), (ra 13, .inl (kI, 700, .inl q_tape)), (b0, .inl (kS, 4, .inr (.inr (.inr (.inr fw)))))] sz)) 0 0 (va_A [(m0, .inr (11, oX11 ra x0)), (ra 13, .inl (kI, 700, .inl q_tape)), (b0, .inl (kS, 4, .inr (.inr (.inr (.inr fw)))))] sz) := by
  refine Met.ofW (cc := cX11_which) (maxL := 3) (ret := (some .int)) (by decide) rfl ?_
  intro p e s m args0 below meth c s₁ B hml hv
  obtain ⟨hargs, hsz, hP, hE, hD0, hKL⟩ := hv
  have hx := B.exec
  have hb := B.bytes
  have hr := B.returns
  have hts := atoms_spec (ws := wsX11_which) B.pre
  have hown : s.vm.findClass RX11 = some m.cls := findClass_of_methodNamed B.named
  have hlocks := B.notSynchronized
  have hK := hE.1
  have hin11 : ∀ w ∈ wsX110, w ∈ wsX11_which := fun _ h9 => List.mem_cons_of_mem _ (List.mem_append_right _ h9)
  subst hsz
  have hD := hD0.self (sz := s.heap.size)
  generalize hAe : va_A [(m0, .inr (11, oX11 ra x0)), (ra 13, .inl (kI, 700, .inl q_tape)), (b0, .inl (kS, 4, .inr (.inr (.inr (.inr fw)))))] s.heap.size = A at hD hKL ⊢
  have hA : ∀ q : Nat, s.heap.size ≤ q → A q := fun q h => by rw [← hAe]; exact Or.inr h
  have hS : va_S A s.heap s.heap [] := va_S.rf
  have hP : va_P (dC, dI) vwCl [(m0, .inr (11, oX11 ra x0)), (ra 13, .inl (kI, 700, .inl q_tape)), (b0, .inl (kS, 4, .inr (.inr (.inr (.inr fw)))))] s.heap := hP
  have hl := lv_entry ([.ref m0, .ref b0]) (n := 3) (Nat.le_of_ble_eq_true rfl)
  have hla : entryFrame m args0 3 = entryFrame m ([.ref m0, .ref b0] : List Value).toArray 3 := by rw [hargs]
  rw [hla, lg_entry_eq]
  generalize (lg_sl ([.ref m0, .ref b0]) ++ List.replicate (3 - (lg_sl ([.ref m0, .ref b0])).length) Slot.unset).toArray = ls at hl ⊢
  have hl : lv_has ls 3 [(0, .ref m0), (1, .ref b0)] := hl
  have hJ2 : ∀ (n : Nat) (v2_loc2 : Int32) (H : Heap) (locs : List Loc) (ls : Array Slot), (4 - v2_loc2.toInt).toNat < n → iv 0 4 v2_loc2 → (∀ m : Nat, (m : Int) < v2_loc2.toInt → wS tT (j0 + m) sS = 0) → va_P (dC, dI) vwCl [(m0, .inr (11, oX11 ra x0)), (ra 13, .inl (kI, 700, .inl q_tape)), (b0, .inl (kS, 4, .inr (.inr (.inr (.inr fw)))))] H → va_D A [(m0, .inr (11, oX11 ra x0)), (ra 13, .inl (kI, 700, .inl q_tape)), (b0, .inl (kS, 4, .inr (.inr (.inr (.inr fw)))))] → va_S A s.heap H locs → lv_has ls 3 [(0, .ref m0), (1, .ref b0), (2, .int v2_loc2)] → W p l e (headSpec wsX11_which rm_s11_which).room s m args0 below meth c H locs (0) (0) (MQ below (va_Qi (fun (r : Int32) (_ : Unit) => iv (-1) 3 r ∧ (r = whS tT j0 sS)) (fun _ t => va_P (dC, dI) vwCl [(m0, .inr (11, oX11 ra x0)), (ra 13, .inl (kI, 700, .inl q_tape)), (b0, .inl (kS, 4, .inr (.inr (.inr (.inr fw)))))] t.heap ∧ va_D A [(m0, .inr (11, oX11 ra x0)), (ra 13, .inl (kI, 700, .inl q_tape)), (b0, .inl (kS, 4, .inr (.inr (.inr (.inr fw)))))]) A) args0 s 0 0 A) (F0 m 2 ls []) := by
    intro n
    induction n with
    | zero => intro v2_loc2 H locs ls hm2; exact absurd hm2 (Nat.not_lt_zero _)
    | succ n ih2 =>
      intro v2_loc2 H locs ls hm2 h2_1 hwh_2 hP hD hS hl
      refine lv_iload_n hx hb dX11_which_2 rfl (lv_at hl 2 rfl) ?_
      refine lv_aload_n hx hb dX11_which_3 rfl (lv_at hl 1 rfl) ?_
      refine va_alen (v := 4) hx hb hK hP 2 5 rfl rfl rfl dX11_which_4 ?_
      refine lv_icmp_ge (tgt := 26) hx hb dX11_which_5 rfl (fun c1 => ?_) (fun c1 => ?_)
      · have b2 : iv 4 4 v2_loc2 := iv_leR c1 ivk_4 h2_1 (by decide) (by decide)
        refine lv_iconst (v := (-1)) hx hb dX11_which_26 ic_m1 ?_
        have hP9 := hP
        have hD9 := hD
        exact W.iret (v := (-1)) hx hb hr (fun t ht hW => ⟨⟨(-1), (), rfl, ⟨(iv_w ivk_m1 (by decide) (by decide)), wh_n hwh_2 c1⟩, by rw [ht]; exact hP9, hD9⟩, hS.F ht⟩) hS.2.2 dX11_which_27
      · have b3 : iv 0 3 v2_loc2 := iv_ltL (Int32.not_le.mp c1) h2_1 ivk_4 (by decide) (by decide)
        refine lv_aload_n hx hb dX11_which_8 rfl (lv_at hl 0 rfl) ?_
        refine lv_aload_n hx hb dX11_which_9 rfl (lv_at hl 1 rfl) ?_
        refine lv_iload_n hx hb dX11_which_10 rfl (lv_at hl 2 rfl) ?_
        refine va_aldq hx hb hK hP 2 5 rfl rfl (iv_in b3 (by decide) (by decide)) dX11_which_11 ?_
        rw [hrow _ (by have q := b3; have q2 := q.1; have q3 := q.2; have q4 := cl_nat q (by decide); omega)]
        refine W.eq (g2 := F0 m 12 ls [.ref (adK (j0 + v2_loc2.toNatClampNeg)), .ref m0]) rfl ?_
        obtain ⟨hPc, hDc, hFc, hJn⟩ := cl_a (wc := [(m0, .inr (11, oX11 ra x0)), (ra 13, .inl (kI, 700, .inl q_tape))]) (wr := [(b0, .inl (kS, 4, .inr (.inr (.inr (.inr fw)))))]) hP hD hS hA [0, 1] [2] rfl rfl (by decide +kernel)
        refine va_calli (va_runV (As := [.ref (adK (j0 + v2_loc2.toNatClampNeg))]) (rest := []) ⟨hx, hb, hml, hown, hts⟩ (s11_is l dC dI kB kI kJ kZ kC kS H.size adK adV m0 ra x0 q_tape (j0 + v2_loc2.toNatClampNeg) tT nN sS (hX) (hq_tape) ((by have q := b3; have q2 := q.1; have q3 := q.2; have q4 := cl_nat q (by decide); omega)) (hRr) (hTQ)) (cwV 1 hts gX11_which_X11_is rfl rfl rfl (by decide +kernel) ⟨Nat.le_of_ble_eq_true rfl, Nat.le_of_ble_eq_true rfl⟩) ⟨fun a U g mk q => by obtain ⟨q0, q1, qP, qE, qD, qL⟩ := q; exact ⟨q0, q1, qP, kE_call qE, qD, kL_call qL⟩, va_recv hK hP (ci := 11) (q0 := 0) rfl rfl, fun U hU hW => ⟨rfl, by rw [hU], by rw [hU]; exact hPc, kE_warm hW hE, hDc.weaken (fun _ _ _ _ => trivial), kL_at hKL hS hFc hW hU⟩⟩ rfl rfl hl.1 rfl (lv_room (Nat.le_of_ble_eq_true rfl)) dX11_which_12 ⟨Nat.le_of_ble_eq_true rfl, Nat.le_of_ble_eq_true rfl⟩) hS (fun q _ h => hFc q h) hFc (fun r4 u t H locs ht hvm w5 hB hz1 hk1 hS => ?_)
        obtain ⟨hP1, hD1⟩ := hB
        try dsimp only at w5
        obtain ⟨hPa, hDa⟩ := hJn (w1 := [(m0, .inr (11, oX11 ra x0)), (ra 13, .inl (kI, 700, .inl q_tape))]) hk1 ht hP1 hD1
        clear hP hD hPc hDc hFc hJn hP1 hD1 hk1
        have hP : va_P (dC, dI) vwCl [(b0, .inl (kS, 4, .inr (.inr (.inr (.inr fw))))), (m0, .inr (11, oX11 ra x0)), (ra 13, .inl (kI, 700, .inl q_tape))] H := hPa
        have hD : va_D A [(b0, .inl (kS, 4, .inr (.inr (.inr (.inr fw))))), (m0, .inr (11, oX11 ra x0)), (ra 13, .inl (kI, 700, .inl q_tape))] := hDa
        clear hPa hDa
        refine W.widen (k := 0) (n := 0) (Nat.le_of_ble_eq_true rfl) (Nat.le_of_ble_eq_true rfl) ?_
        obtain ⟨w5, b6⟩ := w5
        subst w5
        refine lv_if_eq (tgt := 20) hx hb dX11_which_15 rfl (fun c7 => ?_) (fun c7 => ?_)
        · have b8 : iv 0 0 (wS tT (j0 + v2_loc2.toNatClampNeg) sS) := iv_eqL c7 ivk_0
          refine lv_iinc (v := v2_loc2 + Int32.ofInt 1) (lv' := [(2, .int (v2_loc2 + Int32.ofInt 1)), (0, .ref m0), (1, .ref b0)]) hx hb dX11_which_20 hl (k := 2) rfl (rfl) (Nat.le_of_ble_eq_true rfl) rfl (fun ls hl => ?_)
          have b9 : iv 1 4 (v2_loc2 + Int32.ofInt 1) := iv_add b3 ivo_1 (by decide) (by decide) (by decide) (by decide)
          refine lv_goto (tgt := 2) hx hb dX11_which_23 rfl ?_
          have hPD9 := cl_s (wc := [(m0, .inr (11, oX11 ra x0)), (ra 13, .inl (kI, 700, .inl q_tape)), (b0, .inl (kS, 4, .inr (.inr (.inr (.inr fw)))))]) hP hD [1, 2, 0] rfl (by decide +kernel)
          exact ih2 (v2_loc2 + Int32.ofInt 1) _ _ _ (ms_up (c := 1) (d := 0) b3 hm2 (by decide) (iv_inc 1 b3 (by decide) (by decide) (by decide) (by decide)) (by decide) rfl) ((iv_w b9 (by decide) (by decide))) ((show ∀ m : Nat, (m : Int) < (v2_loc2 + Int32.ofInt 1).toInt → wS tT (j0 + m) sS = 0 from al_s (P := fun m => wS tT (j0 + m) sS = 0) hwh_2 (iv_w b3 (by decide) (by decide)) c7)) (hPD9.1) (hPD9.2) hS (lv_sub hl [1, 2, 0] rfl)
        · have b10 : iv 1 1 (wS tT (j0 + v2_loc2.toNatClampNeg) sS) := iv_neLo c7 b6 ivk_0 (by decide) (by decide)
          refine lv_iload_n hx hb dX11_which_18 rfl (lv_at hl 2 rfl) ?_
          have hPD9 := cl_s (wc := [(m0, .inr (11, oX11 ra x0)), (ra 13, .inl (kI, 700, .inl q_tape)), (b0, .inl (kS, 4, .inr (.inr (.inr (.inr fw)))))]) hP hD [1, 2, 0] rfl (by decide +kernel)
          have hP9 := hPD9.1
          have hD9 := hPD9.2
          exact W.iret (v := v2_loc2) hx hb hr (fun t ht hW => ⟨⟨v2_loc2, (), rfl, ⟨(iv_w b3 (by decide) (by decide)), wh_y hwh_2 b3 c7⟩, by rw [ht]; exact hP9, hD9⟩, hS.F ht⟩) hS.2.2 dX11_which_19
  refine lv_iconst (v := 0) hx hb dX11_which_0 ic_0 ?_
  refine lv_istore_n (lv' := [(2, .int 0), (0, .ref m0), (1, .ref b0)]) hx hb dX11_which_1 rfl hl (Nat.le_of_ble_eq_true rfl) rfl (fun ls hl => ?_)
  exact hJ2 _ 0 _ _ _ (Nat.lt_succ_self _) ((iv_w ivk_0 (by decide) (by decide))) ((show ∀ m : Nat, (m : Int) < ((0 : Int32)).toInt → wS tT (j0 + m) sS = 0 from al_0)) (hP) (hD) hS (lv_sub hl [1, 2, 0] rfl)
def rm_s11_numberNow_0_11 : Room := { frames := 1, cells := 0, slots := 0, locals := 21 }
set_option maxHeartbeats 4000000 in
set_option maxRecDepth 100000 in
theorem s11_numberNow_0_11 (l : Launch) (dC : Nat → ClassId) (dI : Nat → Nat → Nat) (kB kI kJ kZ kC kS : ClassId) (sz : Nat) (m0 : Nat) (ra : Nat → Nat) (x0 : Nat → Int32) (tT : Nat → Int32) (nN : Int32) (sS : StT) (hX : fI lX11 hX11 x0) (hRr : RRd tT nN x0 sS) : Met l yX11_numberNow wsX11_numberNow rm_s11_numberNow_0_11 (va_Pc [.ref m0, .int 0, .int 11] (fun U => U.heap.size = sz ∧ va_P (dC, dI) vwCl [(m0, .inr (11, oX11 ra x0))] U.heap ∧ kE dC dI kB kI kJ kZ kC kS U ∧ va_D (fun _ => True) [(m0, .inr (11, oX11 ra x0))])) (va_Qi (fun (r : Int32) (_ : Unit) => iv 0 11 r ∧ (okT (numT tT 0 11 sS) → r = valS tT sS)) (fun _ t => ∃ (x0' : Nat → Int32), fI lX11 hX11 x0' ∧ ((x0' 2).toInt = (x0 2).toInt) ∧ (x0' 3 = x0 3) ∧ (RRd tT nN x0' (numT tT 0 11 sS)) ∧ (x0' 1 = x0 1) ∧ (x0' 10 = x0 10) ∧ (x0' 21 = x0 21) ∧ (x0' 25 = x0 25) ∧ (x0' 23 = x0 23) ∧ va_P (dC, dI) vwCl [(m0, .inr (11, oX11 ra x0'))] t.heap ∧ va_D (va_A [(m0, .inr (11, oX11 ra x0))] sz) [(m0, .inr (11, oX11 ra x0'))]) (va_A [(m0, .inr (11, oX11 ra x0))] sz)) 0 0 (va_A [(m0, .inr (11, oX11 ra x0))] sz) := by
  refine Met.ofW (cc := cX11_numberNow) (maxL := 3) (ret := (some .int)) (by decide) rfl ?_
  intro p e s m args0 below meth c s₁ B hml hv
  obtain ⟨hargs, hsz, hP, hE, hD0⟩ := hv
  have hx := B.exec
  have hb := B.bytes
  have hr := B.returns
  have hts := atoms_spec (ws := wsX11_numberNow) B.pre
  have hown : s.vm.findClass RX11 = some m.cls := findClass_of_methodNamed B.named
  have hlocks := B.notSynchronized
  have hK := hE.1
  have hin11 : ∀ w ∈ wsX110, w ∈ wsX11_numberNow := fun _ h9 => List.mem_cons_of_mem _ (List.mem_append_right _ h9)
  have hw_0 := hts (.fieldLink RX11 184 "PathProberModel" "bad" "I") (List.mem_of_getElem? (i := 1) rfl)
  have hw_1 := hts (.fieldLink RX11 161 "PathProberModel" "token" "I") (List.mem_of_getElem? (i := 2) rfl)
  have hw_2 := hts (.fieldLink RX11 181 "PathProberModel" "stops" "I") (List.mem_of_getElem? (i := 3) rfl)
  have hw_3 := hts (.fieldLink RX11 158 "PathProberModel" "begins" "I") (List.mem_of_getElem? (i := 4) rfl)
  have hw_4 := hts (.fieldLink RX11 171 "PathProberModel" "number" "I") (List.mem_of_getElem? (i := 5) rfl)
  subst hsz
  have hD := hD0.self (sz := s.heap.size)
  generalize hAe : va_A [(m0, .inr (11, oX11 ra x0))] s.heap.size = A at hD ⊢
  have hA : ∀ q : Nat, s.heap.size ≤ q → A q := fun q h => by rw [← hAe]; exact Or.inr h
  have hS : va_S A s.heap s.heap [] := va_S.rf
  have hP : va_P (dC, dI) vwCl [(m0, .inr (11, oX11 ra x0))] s.heap := hP
  have hl := lv_entry ([.ref m0, .int 0, .int 11]) (n := 3) (Nat.le_of_ble_eq_true rfl)
  have hla : entryFrame m args0 3 = entryFrame m ([.ref m0, .int 0, .int 11] : List Value).toArray 3 := by rw [hargs]
  rw [hla, lg_entry_eq]
  generalize (lg_sl ([.ref m0, .int 0, .int 11]) ++ List.replicate (3 - (lg_sl ([.ref m0, .int 0, .int 11])).length) Slot.unset).toArray = ls at hl ⊢
  have hl : lv_has ls 3 [(0, .ref m0), (1, .int 0), (2, .int 11)] := hl
  refine lv_aload_n hx hb dX11_numberNow_0 rfl (lv_at hl 0 rfl) ?_
  refine va_get (D := (dC, dI)) (ci := 11) (v := .int (x0 8)) (C := RX11) (T := TX11) (N := 61) hx hb hts hin11 hown hK hP 0 rfl rfl 22 (Nat.le_of_ble_eq_true rfl) hw_0 (fun _ h9 => h9) rfl dX11_numberNow_1 ?_
  refine lv_if_eq (tgt := 9) hx hb dX11_numberNow_4 rfl (fun c1 => ?_) (fun c1 => ?_)
  · have b2 : iv 0 0 (x0 8) := iv_eqL c1 ivk_0
    refine lv_aload_n hx hb dX11_numberNow_9 rfl (lv_at hl 0 rfl) ?_
    refine va_get (D := (dC, dI)) (ci := 11) (v := .int (x0 4)) (C := RX11) (T := TX11) (N := 61) hx hb hts hin11 hown hK hP 0 rfl rfl 18 (Nat.le_of_ble_eq_true rfl) hw_1 (fun _ h9 => h9) rfl dX11_numberNow_10 ?_
    refine lv_iconst (v := 2) hx hb dX11_numberNow_13 ic_2 ?_
    refine lv_icmp_eq (tgt := 25) hx hb dX11_numberNow_14 rfl (fun c3 => ?_) (fun c3 => ?_)
    · have b4 : iv 2 2 (x0 4) := iv_eqL c3 ivk_2
      refine lv_aload_n hx hb dX11_numberNow_25 rfl (lv_at hl 0 rfl) ?_
      refine va_get (D := (dC, dI)) (ci := 11) (v := .int (x0 7)) (C := RX11) (T := TX11) (N := 61) hx hb hts hin11 hown hK hP 0 rfl rfl 21 (Nat.le_of_ble_eq_true rfl) hw_2 (fun _ h9 => h9) rfl dX11_numberNow_26 ?_
      refine lv_aload_n hx hb dX11_numberNow_29 rfl (lv_at hl 0 rfl) ?_
      refine va_get (D := (dC, dI)) (ci := 11) (v := .int (x0 6)) (C := RX11) (T := TX11) (N := 61) hx hb hts hin11 hown hK hP 0 rfl rfl 20 (Nat.le_of_ble_eq_true rfl) hw_3 (fun _ h9 => h9) rfl dX11_numberNow_30 ?_
      refine lv_isub hx hb dX11_numberNow_33 ?_
      have b5 : iv (-700) 700 ((x0 7) - (x0 6)) := iv_sub (hX 7 : iv 0 700 (x0 7)) (hX 6 : iv 0 700 (x0 6)) (by decide) (by decide) (by decide) (by decide)
      refine lv_iconst (v := 2) hx hb dX11_numberNow_34 ic_2 ?_
      refine lv_icmp_gt (tgt := 54) hx hb dX11_numberNow_35 rfl (fun c6 => ?_) (fun c6 => ?_)
      · have b7 : iv 3 700 ((x0 7) - (x0 6)) := iv_ltR c6 ivk_2 b5 (by decide) (by decide)
        refine lv_aload_n hx hb dX11_numberNow_54 rfl (lv_at hl 0 rfl) ?_
        refine lv_iconst (v := 2) hx hb dX11_numberNow_55 ic_2 ?_
        obtain ⟨hPc, hDc, hFc, hJn⟩ := cl_a (wc := [(m0, .inr (11, oX11 ra x0))]) (wr := []) hP hD hS hA [0] [] rfl rfl (by decide +kernel)
        refine va_callv (va_runV (As := [.int 2]) (rest := []) ⟨hx, hb, hml, hown, hts⟩ (s11_wrong l dC dI kB kI kJ kZ kC kS s.heap.size m0 ra x0 2 tT nN sS (hX) ((iv_w ivk_2 (by decide) (by decide))) (hRr)) (cwV 1 hts gX11_numberNow_X11_wrong rfl rfl rfl (by decide +kernel) ⟨Nat.le_of_ble_eq_true rfl, Nat.le_of_ble_eq_true rfl⟩) ⟨fun a U g mk q => by obtain ⟨q0, q1, qP, qE, qD⟩ := q; exact ⟨q0, q1, qP, kE_call qE, qD⟩, va_recv hK hP (ci := 11) (q0 := 0) rfl rfl, fun U hU hW => ⟨rfl, by rw [hU], by rw [hU]; exact hPc, kE_warm hW hE, hDc.weaken (fun _ _ _ _ => trivial)⟩⟩ rfl rfl hl.1 rfl (lv_room (Nat.le_of_ble_eq_true rfl)) dX11_numberNow_56 ⟨Nat.le_of_ble_eq_true rfl, Nat.le_of_ble_eq_true rfl⟩) hS (fun q _ h => hFc q h) hFc (fun u t H locs ht hvm w9 hB hz1 hk1 hS => ?_)
        obtain ⟨y10, hq11, hq12, hq13, hq14, hq15, hq16, hq17, hq18, hq19, hq20, hP1, hD1⟩ := hB
        try dsimp only at w9
        obtain ⟨hPa, hDa⟩ := hJn (w1 := [(m0, .inr (11, oX11 ra y10))]) hk1 ht hP1 hD1
        clear hP hD hPc hDc hFc hJn hP1 hD1 hk1
        have hP : va_P (dC, dI) vwCl [(m0, .inr (11, oX11 ra y10))] H := hPa
        have hD : va_D A [(m0, .inr (11, oX11 ra y10))] := hDa
        clear hPa hDa
        refine W.widen (k := 0) (n := 0) (Nat.le_of_ble_eq_true rfl) (Nat.le_of_ble_eq_true rfl) ?_
        refine lv_aload_n hx hb dX11_numberNow_59 rfl (lv_at hl 0 rfl) ?_
        refine va_get (D := (dC, dI)) (ci := 11) (v := .int (y10 8)) (C := RX11) (T := TX11) (N := 61) hx hb hts hin11 hown hK hP 0 rfl rfl 22 (Nat.le_of_ble_eq_true rfl) hw_0 (fun _ h9 => h9) rfl dX11_numberNow_60 ?_
        refine lv_if_ne (tgt := 73) hx hb dX11_numberNow_63 rfl (fun _ => ?_) (fun c9 => absurd c9 (iv_ne hq12 ivk_0 (by decide)))
        refine lv_iload_n hx hb dX11_numberNow_73 rfl (lv_at hl 1 rfl) ?_
        have hP9 := hP
        have hD9 := hD
        exact W.iret (v := 0) hx hb hr (fun t ht hW => ⟨⟨0, (), rfl, ⟨(iv_w ivk_0 (by decide) (by decide)), fun hk => (ok_fail ((nr_2 hRr c3 c6).symm ▸ hk)).elim⟩, y10, hq11, (show (y10 2).toInt = (x0 2).toInt from by omega), (show y10 3 = x0 3 from hq14), (show RRd tT nN y10 (numT tT 0 11 sS) from (nr_2 hRr c3 c6) ▸ hq15), (show y10 1 = x0 1 from hq16), (show y10 10 = x0 10 from hq17), (show y10 21 = x0 21 from hq18), (show y10 25 = x0 25 from hq19), (show y10 23 = x0 23 from hq20), by rw [ht]; exact hP9, hD9⟩, hS.F ht⟩) hS.2.2 dX11_numberNow_74
      · have b21 : iv (-700) 2 ((x0 7) - (x0 6)) := iv_leL (Int32.not_lt.mp c6) b5 ivk_2 (by decide) (by decide)
        refine lv_aload_n hx hb dX11_numberNow_38 rfl (lv_at hl 0 rfl) ?_
        refine va_get (D := (dC, dI)) (ci := 11) (v := .int (x0 5)) (C := RX11) (T := TX11) (N := 61) hx hb hts hin11 hown hK hP 0 rfl rfl 19 (Nat.le_of_ble_eq_true rfl) hw_4 (fun _ h9 => h9) rfl dX11_numberNow_39 ?_
        refine lv_iload_n hx hb dX11_numberNow_42 rfl (lv_at hl 1 rfl) ?_
        refine lv_icmp_lt (tgt := 54) hx hb dX11_numberNow_43 rfl (fun c22 => ?_) (fun c22 => ?_)
        · have b23 : iv (-2147483648) (-1) (x0 5) := iv_ltL c22 (hX 5 : iv (-2147483648) 2147483647 (x0 5)) ivk_0 (by decide) (by decide)
          refine lv_aload_n hx hb dX11_numberNow_54 rfl (lv_at hl 0 rfl) ?_
          refine lv_iconst (v := 2) hx hb dX11_numberNow_55 ic_2 ?_
          obtain ⟨hPc, hDc, hFc, hJn⟩ := cl_a (wc := [(m0, .inr (11, oX11 ra x0))]) (wr := []) hP hD hS hA [0] [] rfl rfl (by decide +kernel)
          refine va_callv (va_runV (As := [.int 2]) (rest := []) ⟨hx, hb, hml, hown, hts⟩ (s11_wrong l dC dI kB kI kJ kZ kC kS s.heap.size m0 ra x0 2 tT nN sS (hX) ((iv_w ivk_2 (by decide) (by decide))) (hRr)) (cwV 1 hts gX11_numberNow_X11_wrong rfl rfl rfl (by decide +kernel) ⟨Nat.le_of_ble_eq_true rfl, Nat.le_of_ble_eq_true rfl⟩) ⟨fun a U g mk q => by obtain ⟨q0, q1, qP, qE, qD⟩ := q; exact ⟨q0, q1, qP, kE_call qE, qD⟩, va_recv hK hP (ci := 11) (q0 := 0) rfl rfl, fun U hU hW => ⟨rfl, by rw [hU], by rw [hU]; exact hPc, kE_warm hW hE, hDc.weaken (fun _ _ _ _ => trivial)⟩⟩ rfl rfl hl.1 rfl (lv_room (Nat.le_of_ble_eq_true rfl)) dX11_numberNow_56 ⟨Nat.le_of_ble_eq_true rfl, Nat.le_of_ble_eq_true rfl⟩) hS (fun q _ h => hFc q h) hFc (fun u t H locs ht hvm w25 hB hz1 hk1 hS => ?_)
          obtain ⟨y26, hq27, hq28, hq29, hq30, hq31, hq32, hq33, hq34, hq35, hq36, hP1, hD1⟩ := hB
          try dsimp only at w25
          obtain ⟨hPa, hDa⟩ := hJn (w1 := [(m0, .inr (11, oX11 ra y26))]) hk1 ht hP1 hD1
          clear hP hD hPc hDc hFc hJn hP1 hD1 hk1
          have hP : va_P (dC, dI) vwCl [(m0, .inr (11, oX11 ra y26))] H := hPa
          have hD : va_D A [(m0, .inr (11, oX11 ra y26))] := hDa
          clear hPa hDa
          refine W.widen (k := 0) (n := 0) (Nat.le_of_ble_eq_true rfl) (Nat.le_of_ble_eq_true rfl) ?_
          refine lv_aload_n hx hb dX11_numberNow_59 rfl (lv_at hl 0 rfl) ?_
          refine va_get (D := (dC, dI)) (ci := 11) (v := .int (y26 8)) (C := RX11) (T := TX11) (N := 61) hx hb hts hin11 hown hK hP 0 rfl rfl 22 (Nat.le_of_ble_eq_true rfl) hw_0 (fun _ h9 => h9) rfl dX11_numberNow_60 ?_
          refine lv_if_ne (tgt := 73) hx hb dX11_numberNow_63 rfl (fun _ => ?_) (fun c9 => absurd c9 (iv_ne hq28 ivk_0 (by decide)))
          refine lv_iload_n hx hb dX11_numberNow_73 rfl (lv_at hl 1 rfl) ?_
          have hP9 := hP
          have hD9 := hD
          exact W.iret (v := 0) hx hb hr (fun t ht hW => ⟨⟨0, (), rfl, ⟨(iv_w ivk_0 (by decide) (by decide)), fun hk => (ok_fail ((nr_3 hRr c3 (Int32.not_lt.mp c6) (Or.inl c22)).symm ▸ hk)).elim⟩, y26, hq27, (show (y26 2).toInt = (x0 2).toInt from by omega), (show y26 3 = x0 3 from hq30), (show RRd tT nN y26 (numT tT 0 11 sS) from (nr_3 hRr c3 (Int32.not_lt.mp c6) (Or.inl c22)) ▸ hq31), (show y26 1 = x0 1 from hq32), (show y26 10 = x0 10 from hq33), (show y26 21 = x0 21 from hq34), (show y26 25 = x0 25 from hq35), (show y26 23 = x0 23 from hq36), by rw [ht]; exact hP9, hD9⟩, hS.F ht⟩) hS.2.2 dX11_numberNow_74
        · have b37 : iv 0 2147483647 (x0 5) := iv_leR (Int32.not_lt.mp c22) ivk_0 (hX 5 : iv (-2147483648) 2147483647 (x0 5)) (by decide) (by decide)
          refine lv_aload_n hx hb dX11_numberNow_46 rfl (lv_at hl 0 rfl) ?_
          refine va_get (D := (dC, dI)) (ci := 11) (v := .int (x0 5)) (C := RX11) (T := TX11) (N := 61) hx hb hts hin11 hown hK hP 0 rfl rfl 19 (Nat.le_of_ble_eq_true rfl) hw_4 (fun _ h9 => h9) rfl dX11_numberNow_47 ?_
          refine lv_iload_n hx hb dX11_numberNow_50 rfl (lv_at hl 2 rfl) ?_
          refine lv_icmp_le (tgt := 59) hx hb dX11_numberNow_51 rfl (fun c38 => ?_) (fun c38 => ?_)
          · have b39 : iv 0 11 (x0 5) := iv_leL c38 b37 ivk_11 (by decide) (by decide)
            refine lv_aload_n hx hb dX11_numberNow_59 rfl (lv_at hl 0 rfl) ?_
            refine va_get (D := (dC, dI)) (ci := 11) (v := .int (x0 8)) (C := RX11) (T := TX11) (N := 61) hx hb hts hin11 hown hK hP 0 rfl rfl 22 (Nat.le_of_ble_eq_true rfl) hw_0 (fun _ h9 => h9) rfl dX11_numberNow_60 ?_
            refine lv_if_ne (tgt := 73) hx hb dX11_numberNow_63 rfl (fun c9 => absurd (c1) c9) (fun _ => ?_)
            refine lv_aload_n hx hb dX11_numberNow_66 rfl (lv_at hl 0 rfl) ?_
            refine va_get (D := (dC, dI)) (ci := 11) (v := .int (x0 5)) (C := RX11) (T := TX11) (N := 61) hx hb hts hin11 hown hK hP 0 rfl rfl 19 (Nat.le_of_ble_eq_true rfl) hw_4 (fun _ h9 => h9) rfl dX11_numberNow_67 ?_
            refine lv_goto (tgt := 74) hx hb dX11_numberNow_70 rfl ?_
            have hP9 := hP
            have hD9 := hD
            exact W.iret (v := x0 5) hx hb hr (fun t ht hW => ⟨⟨x0 5, (), rfl, ⟨b39, fun _ => (nr_ok hRr c1 c3 (Int32.not_lt.mp c6) (Int32.not_lt.mp c22) c38).2⟩, x0, hX, (show (x0 2).toInt = (x0 2).toInt from by omega), (show x0 3 = x0 3 from rfl), (show RRd tT nN x0 (numT tT 0 11 sS) from (nr_ok hRr c1 c3 (Int32.not_lt.mp c6) (Int32.not_lt.mp c22) c38).1 ▸ hRr), (show x0 1 = x0 1 from rfl), (show x0 10 = x0 10 from rfl), (show x0 21 = x0 21 from rfl), (show x0 25 = x0 25 from rfl), (show x0 23 = x0 23 from rfl), by rw [ht]; exact hP9, hD9⟩, hS.F ht⟩) hS.2.2 dX11_numberNow_74
          · have b40 : iv 12 2147483647 (x0 5) := iv_ltR (Int32.not_le.mp c38) ivk_11 b37 (by decide) (by decide)
            refine lv_aload_n hx hb dX11_numberNow_54 rfl (lv_at hl 0 rfl) ?_
            refine lv_iconst (v := 2) hx hb dX11_numberNow_55 ic_2 ?_
            obtain ⟨hPc, hDc, hFc, hJn⟩ := cl_a (wc := [(m0, .inr (11, oX11 ra x0))]) (wr := []) hP hD hS hA [0] [] rfl rfl (by decide +kernel)
            refine va_callv (va_runV (As := [.int 2]) (rest := []) ⟨hx, hb, hml, hown, hts⟩ (s11_wrong l dC dI kB kI kJ kZ kC kS s.heap.size m0 ra x0 2 tT nN sS (hX) ((iv_w ivk_2 (by decide) (by decide))) (hRr)) (cwV 1 hts gX11_numberNow_X11_wrong rfl rfl rfl (by decide +kernel) ⟨Nat.le_of_ble_eq_true rfl, Nat.le_of_ble_eq_true rfl⟩) ⟨fun a U g mk q => by obtain ⟨q0, q1, qP, qE, qD⟩ := q; exact ⟨q0, q1, qP, kE_call qE, qD⟩, va_recv hK hP (ci := 11) (q0 := 0) rfl rfl, fun U hU hW => ⟨rfl, by rw [hU], by rw [hU]; exact hPc, kE_warm hW hE, hDc.weaken (fun _ _ _ _ => trivial)⟩⟩ rfl rfl hl.1 rfl (lv_room (Nat.le_of_ble_eq_true rfl)) dX11_numberNow_56 ⟨Nat.le_of_ble_eq_true rfl, Nat.le_of_ble_eq_true rfl⟩) hS (fun q _ h => hFc q h) hFc (fun u t H locs ht hvm w42 hB hz1 hk1 hS => ?_)
            obtain ⟨y43, hq44, hq45, hq46, hq47, hq48, hq49, hq50, hq51, hq52, hq53, hP1, hD1⟩ := hB
            try dsimp only at w42
            obtain ⟨hPa, hDa⟩ := hJn (w1 := [(m0, .inr (11, oX11 ra y43))]) hk1 ht hP1 hD1
            clear hP hD hPc hDc hFc hJn hP1 hD1 hk1
            have hP : va_P (dC, dI) vwCl [(m0, .inr (11, oX11 ra y43))] H := hPa
            have hD : va_D A [(m0, .inr (11, oX11 ra y43))] := hDa
            clear hPa hDa
            refine W.widen (k := 0) (n := 0) (Nat.le_of_ble_eq_true rfl) (Nat.le_of_ble_eq_true rfl) ?_
            refine lv_aload_n hx hb dX11_numberNow_59 rfl (lv_at hl 0 rfl) ?_
            refine va_get (D := (dC, dI)) (ci := 11) (v := .int (y43 8)) (C := RX11) (T := TX11) (N := 61) hx hb hts hin11 hown hK hP 0 rfl rfl 22 (Nat.le_of_ble_eq_true rfl) hw_0 (fun _ h9 => h9) rfl dX11_numberNow_60 ?_
            refine lv_if_ne (tgt := 73) hx hb dX11_numberNow_63 rfl (fun _ => ?_) (fun c9 => absurd c9 (iv_ne hq45 ivk_0 (by decide)))
            refine lv_iload_n hx hb dX11_numberNow_73 rfl (lv_at hl 1 rfl) ?_
            have hP9 := hP
            have hD9 := hD
            exact W.iret (v := 0) hx hb hr (fun t ht hW => ⟨⟨0, (), rfl, ⟨(iv_w ivk_0 (by decide) (by decide)), fun hk => (ok_fail ((nr_3 hRr c3 (Int32.not_lt.mp c6) (Or.inr (Int32.not_le.mp c38))).symm ▸ hk)).elim⟩, y43, hq44, (show (y43 2).toInt = (x0 2).toInt from by omega), (show y43 3 = x0 3 from hq47), (show RRd tT nN y43 (numT tT 0 11 sS) from (nr_3 hRr c3 (Int32.not_lt.mp c6) (Or.inr (Int32.not_le.mp c38))) ▸ hq48), (show y43 1 = x0 1 from hq49), (show y43 10 = x0 10 from hq50), (show y43 21 = x0 21 from hq51), (show y43 25 = x0 25 from hq52), (show y43 23 = x0 23 from hq53), by rw [ht]; exact hP9, hD9⟩, hS.F ht⟩) hS.2.2 dX11_numberNow_74
    · refine lv_aload_n hx hb dX11_numberNow_17 rfl (lv_at hl 0 rfl) ?_
      refine lv_iconst (v := 1) hx hb dX11_numberNow_18 ic_1 ?_
      obtain ⟨hPc, hDc, hFc, hJn⟩ := cl_a (wc := [(m0, .inr (11, oX11 ra x0))]) (wr := []) hP hD hS hA [0] [] rfl rfl (by decide +kernel)
      refine va_callv (va_runV (As := [.int 1]) (rest := []) ⟨hx, hb, hml, hown, hts⟩ (s11_wrong l dC dI kB kI kJ kZ kC kS s.heap.size m0 ra x0 1 tT nN sS (hX) ((iv_w ivk_1 (by decide) (by decide))) (hRr)) (cwV 1 hts gX11_numberNow_X11_wrong rfl rfl rfl (by decide +kernel) ⟨Nat.le_of_ble_eq_true rfl, Nat.le_of_ble_eq_true rfl⟩) ⟨fun a U g mk q => by obtain ⟨q0, q1, qP, qE, qD⟩ := q; exact ⟨q0, q1, qP, kE_call qE, qD⟩, va_recv hK hP (ci := 11) (q0 := 0) rfl rfl, fun U hU hW => ⟨rfl, by rw [hU], by rw [hU]; exact hPc, kE_warm hW hE, hDc.weaken (fun _ _ _ _ => trivial)⟩⟩ rfl rfl hl.1 rfl (lv_room (Nat.le_of_ble_eq_true rfl)) dX11_numberNow_19 ⟨Nat.le_of_ble_eq_true rfl, Nat.le_of_ble_eq_true rfl⟩) hS (fun q _ h => hFc q h) hFc (fun u t H locs ht hvm w55 hB hz1 hk1 hS => ?_)
      obtain ⟨y56, hq57, hq58, hq59, hq60, hq61, hq62, hq63, hq64, hq65, hq66, hP1, hD1⟩ := hB
      try dsimp only at w55
      obtain ⟨hPa, hDa⟩ := hJn (w1 := [(m0, .inr (11, oX11 ra y56))]) hk1 ht hP1 hD1
      clear hP hD hPc hDc hFc hJn hP1 hD1 hk1
      have hP : va_P (dC, dI) vwCl [(m0, .inr (11, oX11 ra y56))] H := hPa
      have hD : va_D A [(m0, .inr (11, oX11 ra y56))] := hDa
      clear hPa hDa
      refine W.widen (k := 0) (n := 0) (Nat.le_of_ble_eq_true rfl) (Nat.le_of_ble_eq_true rfl) ?_
      refine lv_goto (tgt := 59) hx hb dX11_numberNow_22 rfl ?_
      refine lv_aload_n hx hb dX11_numberNow_59 rfl (lv_at hl 0 rfl) ?_
      refine va_get (D := (dC, dI)) (ci := 11) (v := .int (y56 8)) (C := RX11) (T := TX11) (N := 61) hx hb hts hin11 hown hK hP 0 rfl rfl 22 (Nat.le_of_ble_eq_true rfl) hw_0 (fun _ h9 => h9) rfl dX11_numberNow_60 ?_
      refine lv_if_ne (tgt := 73) hx hb dX11_numberNow_63 rfl (fun _ => ?_) (fun c9 => absurd c9 (iv_ne hq58 ivk_0 (by decide)))
      refine lv_iload_n hx hb dX11_numberNow_73 rfl (lv_at hl 1 rfl) ?_
      have hP9 := hP
      have hD9 := hD
      exact W.iret (v := 0) hx hb hr (fun t ht hW => ⟨⟨0, (), rfl, ⟨(iv_w ivk_0 (by decide) (by decide)), fun hk => (ok_fail ((nr_1 hRr c3).symm ▸ hk)).elim⟩, y56, hq57, (show (y56 2).toInt = (x0 2).toInt from by omega), (show y56 3 = x0 3 from hq60), (show RRd tT nN y56 (numT tT 0 11 sS) from (nr_1 hRr c3) ▸ hq61), (show y56 1 = x0 1 from hq62), (show y56 10 = x0 10 from hq63), (show y56 21 = x0 21 from hq64), (show y56 25 = x0 25 from hq65), (show y56 23 = x0 23 from hq66), by rw [ht]; exact hP9, hD9⟩, hS.F ht⟩) hS.2.2 dX11_numberNow_74
  · have b67 : iv 1 5 (x0 8) := iv_neLo c1 (hX 8 : iv 0 5 (x0 8)) ivk_0 (by decide) (by decide)
    refine lv_iload_n hx hb dX11_numberNow_7 rfl (lv_at hl 1 rfl) ?_
    have hP9 := hP
    have hD9 := hD
    exact W.iret (v := 0) hx hb hr (fun t ht hW => ⟨⟨0, (), rfl, ⟨(iv_w ivk_0 (by decide) (by decide)), fun hk => absurd (ok_num hk) (rr_no hRr c1)⟩, x0, hX, (show (x0 2).toInt = (x0 2).toInt from by omega), (show x0 3 = x0 3 from rfl), (show RRd tT nN x0 (numT tT 0 11 sS) from nr_b hRr c1 ▸ hRr), (show x0 1 = x0 1 from rfl), (show x0 10 = x0 10 from rfl), (show x0 21 = x0 21 from rfl), (show x0 25 = x0 25 from rfl), (show x0 23 = x0 23 from rfl), by rw [ht]; exact hP9, hD9⟩, hS.F ht⟩) hS.2.2 dX11_numberNow_8
def rm_s11_numberNow_0_15 : Room := { frames := 1, cells := 0, slots := 0, locals := 21 }
set_option maxHeartbeats 4000000 in
set_option maxRecDepth 100000 in
theorem s11_numberNow_0_15 (l : Launch) (dC : Nat → ClassId) (dI : Nat → Nat → Nat) (kB kI kJ kZ kC kS : ClassId) (sz : Nat) (m0 : Nat) (ra : Nat → Nat) (x0 : Nat → Int32) (tT : Nat → Int32) (nN : Int32) (sS : StT) (hX : fI lX11 hX11 x0) (hRr : RRd tT nN x0 sS) : Met l yX11_numberNow wsX11_numberNow rm_s11_numberNow_0_15 (va_Pc [.ref m0, .int 0, .int 15] (fun U => U.heap.size = sz ∧ va_P (dC, dI) vwCl [(m0, .inr (11, oX11 ra x0))] U.heap ∧ kE dC dI kB kI kJ kZ kC kS U ∧ va_D (fun _ => True) [(m0, .inr (11, oX11 ra x0))])) (va_Qi (fun (r : Int32) (_ : Unit) => iv 0 15 r ∧ (okT (numT tT 0 15 sS) → r = valS tT sS)) (fun _ t => ∃ (x0' : Nat → Int32), fI lX11 hX11 x0' ∧ ((x0' 2).toInt = (x0 2).toInt) ∧ (x0' 3 = x0 3) ∧ (RRd tT nN x0' (numT tT 0 15 sS)) ∧ (x0' 1 = x0 1) ∧ (x0' 10 = x0 10) ∧ (x0' 21 = x0 21) ∧ (x0' 25 = x0 25) ∧ (x0' 23 = x0 23) ∧ va_P (dC, dI) vwCl [(m0, .inr (11, oX11 ra x0'))] t.heap ∧ va_D (va_A [(m0, .inr (11, oX11 ra x0))] sz) [(m0, .inr (11, oX11 ra x0'))]) (va_A [(m0, .inr (11, oX11 ra x0))] sz)) 0 0 (va_A [(m0, .inr (11, oX11 ra x0))] sz) := by
  refine Met.ofW (cc := cX11_numberNow) (maxL := 3) (ret := (some .int)) (by decide) rfl ?_
  intro p e s m args0 below meth c s₁ B hml hv
  obtain ⟨hargs, hsz, hP, hE, hD0⟩ := hv
  have hx := B.exec
  have hb := B.bytes
  have hr := B.returns
  have hts := atoms_spec (ws := wsX11_numberNow) B.pre
  have hown : s.vm.findClass RX11 = some m.cls := findClass_of_methodNamed B.named
  have hlocks := B.notSynchronized
  have hK := hE.1
  have hin11 : ∀ w ∈ wsX110, w ∈ wsX11_numberNow := fun _ h9 => List.mem_cons_of_mem _ (List.mem_append_right _ h9)
  have hw_0 := hts (.fieldLink RX11 184 "PathProberModel" "bad" "I") (List.mem_of_getElem? (i := 1) rfl)
  have hw_1 := hts (.fieldLink RX11 161 "PathProberModel" "token" "I") (List.mem_of_getElem? (i := 2) rfl)
  have hw_2 := hts (.fieldLink RX11 181 "PathProberModel" "stops" "I") (List.mem_of_getElem? (i := 3) rfl)
  have hw_3 := hts (.fieldLink RX11 158 "PathProberModel" "begins" "I") (List.mem_of_getElem? (i := 4) rfl)
  have hw_4 := hts (.fieldLink RX11 171 "PathProberModel" "number" "I") (List.mem_of_getElem? (i := 5) rfl)
  subst hsz
  have hD := hD0.self (sz := s.heap.size)
  generalize hAe : va_A [(m0, .inr (11, oX11 ra x0))] s.heap.size = A at hD ⊢
  have hA : ∀ q : Nat, s.heap.size ≤ q → A q := fun q h => by rw [← hAe]; exact Or.inr h
  have hS : va_S A s.heap s.heap [] := va_S.rf
  have hP : va_P (dC, dI) vwCl [(m0, .inr (11, oX11 ra x0))] s.heap := hP
  have hl := lv_entry ([.ref m0, .int 0, .int 15]) (n := 3) (Nat.le_of_ble_eq_true rfl)
  have hla : entryFrame m args0 3 = entryFrame m ([.ref m0, .int 0, .int 15] : List Value).toArray 3 := by rw [hargs]
  rw [hla, lg_entry_eq]
  generalize (lg_sl ([.ref m0, .int 0, .int 15]) ++ List.replicate (3 - (lg_sl ([.ref m0, .int 0, .int 15])).length) Slot.unset).toArray = ls at hl ⊢
  have hl : lv_has ls 3 [(0, .ref m0), (1, .int 0), (2, .int 15)] := hl
  refine lv_aload_n hx hb dX11_numberNow_0 rfl (lv_at hl 0 rfl) ?_
  refine va_get (D := (dC, dI)) (ci := 11) (v := .int (x0 8)) (C := RX11) (T := TX11) (N := 61) hx hb hts hin11 hown hK hP 0 rfl rfl 22 (Nat.le_of_ble_eq_true rfl) hw_0 (fun _ h9 => h9) rfl dX11_numberNow_1 ?_
  refine lv_if_eq (tgt := 9) hx hb dX11_numberNow_4 rfl (fun c1 => ?_) (fun c1 => ?_)
  · have b2 : iv 0 0 (x0 8) := iv_eqL c1 ivk_0
    refine lv_aload_n hx hb dX11_numberNow_9 rfl (lv_at hl 0 rfl) ?_
    refine va_get (D := (dC, dI)) (ci := 11) (v := .int (x0 4)) (C := RX11) (T := TX11) (N := 61) hx hb hts hin11 hown hK hP 0 rfl rfl 18 (Nat.le_of_ble_eq_true rfl) hw_1 (fun _ h9 => h9) rfl dX11_numberNow_10 ?_
    refine lv_iconst (v := 2) hx hb dX11_numberNow_13 ic_2 ?_
    refine lv_icmp_eq (tgt := 25) hx hb dX11_numberNow_14 rfl (fun c3 => ?_) (fun c3 => ?_)
    · have b4 : iv 2 2 (x0 4) := iv_eqL c3 ivk_2
      refine lv_aload_n hx hb dX11_numberNow_25 rfl (lv_at hl 0 rfl) ?_
      refine va_get (D := (dC, dI)) (ci := 11) (v := .int (x0 7)) (C := RX11) (T := TX11) (N := 61) hx hb hts hin11 hown hK hP 0 rfl rfl 21 (Nat.le_of_ble_eq_true rfl) hw_2 (fun _ h9 => h9) rfl dX11_numberNow_26 ?_
      refine lv_aload_n hx hb dX11_numberNow_29 rfl (lv_at hl 0 rfl) ?_
      refine va_get (D := (dC, dI)) (ci := 11) (v := .int (x0 6)) (C := RX11) (T := TX11) (N := 61) hx hb hts hin11 hown hK hP 0 rfl rfl 20 (Nat.le_of_ble_eq_true rfl) hw_3 (fun _ h9 => h9) rfl dX11_numberNow_30 ?_
      refine lv_isub hx hb dX11_numberNow_33 ?_
      have b5 : iv (-700) 700 ((x0 7) - (x0 6)) := iv_sub (hX 7 : iv 0 700 (x0 7)) (hX 6 : iv 0 700 (x0 6)) (by decide) (by decide) (by decide) (by decide)
      refine lv_iconst (v := 2) hx hb dX11_numberNow_34 ic_2 ?_
      refine lv_icmp_gt (tgt := 54) hx hb dX11_numberNow_35 rfl (fun c6 => ?_) (fun c6 => ?_)
      · have b7 : iv 3 700 ((x0 7) - (x0 6)) := iv_ltR c6 ivk_2 b5 (by decide) (by decide)
        refine lv_aload_n hx hb dX11_numberNow_54 rfl (lv_at hl 0 rfl) ?_
        refine lv_iconst (v := 2) hx hb dX11_numberNow_55 ic_2 ?_
        obtain ⟨hPc, hDc, hFc, hJn⟩ := cl_a (wc := [(m0, .inr (11, oX11 ra x0))]) (wr := []) hP hD hS hA [0] [] rfl rfl (by decide +kernel)
        refine va_callv (va_runV (As := [.int 2]) (rest := []) ⟨hx, hb, hml, hown, hts⟩ (s11_wrong l dC dI kB kI kJ kZ kC kS s.heap.size m0 ra x0 2 tT nN sS (hX) ((iv_w ivk_2 (by decide) (by decide))) (hRr)) (cwV 1 hts gX11_numberNow_X11_wrong rfl rfl rfl (by decide +kernel) ⟨Nat.le_of_ble_eq_true rfl, Nat.le_of_ble_eq_true rfl⟩) ⟨fun a U g mk q => by obtain ⟨q0, q1, qP, qE, qD⟩ := q; exact ⟨q0, q1, qP, kE_call qE, qD⟩, va_recv hK hP (ci := 11) (q0 := 0) rfl rfl, fun U hU hW => ⟨rfl, by rw [hU], by rw [hU]; exact hPc, kE_warm hW hE, hDc.weaken (fun _ _ _ _ => trivial)⟩⟩ rfl rfl hl.1 rfl (lv_room (Nat.le_of_ble_eq_true rfl)) dX11_numberNow_56 ⟨Nat.le_of_ble_eq_true rfl, Nat.le_of_ble_eq_true rfl⟩) hS (fun q _ h => hFc q h) hFc (fun u t H locs ht hvm w9 hB hz1 hk1 hS => ?_)
        obtain ⟨y10, hq11, hq12, hq13, hq14, hq15, hq16, hq17, hq18, hq19, hq20, hP1, hD1⟩ := hB
        try dsimp only at w9
        obtain ⟨hPa, hDa⟩ := hJn (w1 := [(m0, .inr (11, oX11 ra y10))]) hk1 ht hP1 hD1
        clear hP hD hPc hDc hFc hJn hP1 hD1 hk1
        have hP : va_P (dC, dI) vwCl [(m0, .inr (11, oX11 ra y10))] H := hPa
        have hD : va_D A [(m0, .inr (11, oX11 ra y10))] := hDa
        clear hPa hDa
        refine W.widen (k := 0) (n := 0) (Nat.le_of_ble_eq_true rfl) (Nat.le_of_ble_eq_true rfl) ?_
        refine lv_aload_n hx hb dX11_numberNow_59 rfl (lv_at hl 0 rfl) ?_
        refine va_get (D := (dC, dI)) (ci := 11) (v := .int (y10 8)) (C := RX11) (T := TX11) (N := 61) hx hb hts hin11 hown hK hP 0 rfl rfl 22 (Nat.le_of_ble_eq_true rfl) hw_0 (fun _ h9 => h9) rfl dX11_numberNow_60 ?_
        refine lv_if_ne (tgt := 73) hx hb dX11_numberNow_63 rfl (fun _ => ?_) (fun c9 => absurd c9 (iv_ne hq12 ivk_0 (by decide)))
        refine lv_iload_n hx hb dX11_numberNow_73 rfl (lv_at hl 1 rfl) ?_
        have hP9 := hP
        have hD9 := hD
        exact W.iret (v := 0) hx hb hr (fun t ht hW => ⟨⟨0, (), rfl, ⟨(iv_w ivk_0 (by decide) (by decide)), fun hk => (ok_fail ((nr_2 hRr c3 c6).symm ▸ hk)).elim⟩, y10, hq11, (show (y10 2).toInt = (x0 2).toInt from by omega), (show y10 3 = x0 3 from hq14), (show RRd tT nN y10 (numT tT 0 15 sS) from (nr_2 hRr c3 c6) ▸ hq15), (show y10 1 = x0 1 from hq16), (show y10 10 = x0 10 from hq17), (show y10 21 = x0 21 from hq18), (show y10 25 = x0 25 from hq19), (show y10 23 = x0 23 from hq20), by rw [ht]; exact hP9, hD9⟩, hS.F ht⟩) hS.2.2 dX11_numberNow_74
      · have b21 : iv (-700) 2 ((x0 7) - (x0 6)) := iv_leL (Int32.not_lt.mp c6) b5 ivk_2 (by decide) (by decide)
        refine lv_aload_n hx hb dX11_numberNow_38 rfl (lv_at hl 0 rfl) ?_
        refine va_get (D := (dC, dI)) (ci := 11) (v := .int (x0 5)) (C := RX11) (T := TX11) (N := 61) hx hb hts hin11 hown hK hP 0 rfl rfl 19 (Nat.le_of_ble_eq_true rfl) hw_4 (fun _ h9 => h9) rfl dX11_numberNow_39 ?_
        refine lv_iload_n hx hb dX11_numberNow_42 rfl (lv_at hl 1 rfl) ?_
        refine lv_icmp_lt (tgt := 54) hx hb dX11_numberNow_43 rfl (fun c22 => ?_) (fun c22 => ?_)
        · have b23 : iv (-2147483648) (-1) (x0 5) := iv_ltL c22 (hX 5 : iv (-2147483648) 2147483647 (x0 5)) ivk_0 (by decide) (by decide)
          refine lv_aload_n hx hb dX11_numberNow_54 rfl (lv_at hl 0 rfl) ?_
          refine lv_iconst (v := 2) hx hb dX11_numberNow_55 ic_2 ?_
          obtain ⟨hPc, hDc, hFc, hJn⟩ := cl_a (wc := [(m0, .inr (11, oX11 ra x0))]) (wr := []) hP hD hS hA [0] [] rfl rfl (by decide +kernel)
          refine va_callv (va_runV (As := [.int 2]) (rest := []) ⟨hx, hb, hml, hown, hts⟩ (s11_wrong l dC dI kB kI kJ kZ kC kS s.heap.size m0 ra x0 2 tT nN sS (hX) ((iv_w ivk_2 (by decide) (by decide))) (hRr)) (cwV 1 hts gX11_numberNow_X11_wrong rfl rfl rfl (by decide +kernel) ⟨Nat.le_of_ble_eq_true rfl, Nat.le_of_ble_eq_true rfl⟩) ⟨fun a U g mk q => by obtain ⟨q0, q1, qP, qE, qD⟩ := q; exact ⟨q0, q1, qP, kE_call qE, qD⟩, va_recv hK hP (ci := 11) (q0 := 0) rfl rfl, fun U hU hW => ⟨rfl, by rw [hU], by rw [hU]; exact hPc, kE_warm hW hE, hDc.weaken (fun _ _ _ _ => trivial)⟩⟩ rfl rfl hl.1 rfl (lv_room (Nat.le_of_ble_eq_true rfl)) dX11_numberNow_56 ⟨Nat.le_of_ble_eq_true rfl, Nat.le_of_ble_eq_true rfl⟩) hS (fun q _ h => hFc q h) hFc (fun u t H locs ht hvm w25 hB hz1 hk1 hS => ?_)
          obtain ⟨y26, hq27, hq28, hq29, hq30, hq31, hq32, hq33, hq34, hq35, hq36, hP1, hD1⟩ := hB
          try dsimp only at w25
          obtain ⟨hPa, hDa⟩ := hJn (w1 := [(m0, .inr (11, oX11 ra y26))]) hk1 ht hP1 hD1
          clear hP hD hPc hDc hFc hJn hP1 hD1 hk1
          have hP : va_P (dC, dI) vwCl [(m0, .inr (11, oX11 ra y26))] H := hPa
          have hD : va_D A [(m0, .inr (11, oX11 ra y26))] := hDa
          clear hPa hDa
          refine W.widen (k := 0) (n := 0) (Nat.le_of_ble_eq_true rfl) (Nat.le_of_ble_eq_true rfl) ?_
          refine lv_aload_n hx hb dX11_numberNow_59 rfl (lv_at hl 0 rfl) ?_
          refine va_get (D := (dC, dI)) (ci := 11) (v := .int (y26 8)) (C := RX11) (T := TX11) (N := 61) hx hb hts hin11 hown hK hP 0 rfl rfl 22 (Nat.le_of_ble_eq_true rfl) hw_0 (fun _ h9 => h9) rfl dX11_numberNow_60 ?_
          refine lv_if_ne (tgt := 73) hx hb dX11_numberNow_63 rfl (fun _ => ?_) (fun c9 => absurd c9 (iv_ne hq28 ivk_0 (by decide)))
          refine lv_iload_n hx hb dX11_numberNow_73 rfl (lv_at hl 1 rfl) ?_
          have hP9 := hP
          have hD9 := hD
          exact W.iret (v := 0) hx hb hr (fun t ht hW => ⟨⟨0, (), rfl, ⟨(iv_w ivk_0 (by decide) (by decide)), fun hk => (ok_fail ((nr_3 hRr c3 (Int32.not_lt.mp c6) (Or.inl c22)).symm ▸ hk)).elim⟩, y26, hq27, (show (y26 2).toInt = (x0 2).toInt from by omega), (show y26 3 = x0 3 from hq30), (show RRd tT nN y26 (numT tT 0 15 sS) from (nr_3 hRr c3 (Int32.not_lt.mp c6) (Or.inl c22)) ▸ hq31), (show y26 1 = x0 1 from hq32), (show y26 10 = x0 10 from hq33), (show y26 21 = x0 21 from hq34), (show y26 25 = x0 25 from hq35), (show y26 23 = x0 23 from hq36), by rw [ht]; exact hP9, hD9⟩, hS.F ht⟩) hS.2.2 dX11_numberNow_74
        · have b37 : iv 0 2147483647 (x0 5) := iv_leR (Int32.not_lt.mp c22) ivk_0 (hX 5 : iv (-2147483648) 2147483647 (x0 5)) (by decide) (by decide)
          refine lv_aload_n hx hb dX11_numberNow_46 rfl (lv_at hl 0 rfl) ?_
          refine va_get (D := (dC, dI)) (ci := 11) (v := .int (x0 5)) (C := RX11) (T := TX11) (N := 61) hx hb hts hin11 hown hK hP 0 rfl rfl 19 (Nat.le_of_ble_eq_true rfl) hw_4 (fun _ h9 => h9) rfl dX11_numberNow_47 ?_
          refine lv_iload_n hx hb dX11_numberNow_50 rfl (lv_at hl 2 rfl) ?_
          refine lv_icmp_le (tgt := 59) hx hb dX11_numberNow_51 rfl (fun c38 => ?_) (fun c38 => ?_)
          · have b39 : iv 0 15 (x0 5) := iv_leL c38 b37 ivk_15 (by decide) (by decide)
            refine lv_aload_n hx hb dX11_numberNow_59 rfl (lv_at hl 0 rfl) ?_
            refine va_get (D := (dC, dI)) (ci := 11) (v := .int (x0 8)) (C := RX11) (T := TX11) (N := 61) hx hb hts hin11 hown hK hP 0 rfl rfl 22 (Nat.le_of_ble_eq_true rfl) hw_0 (fun _ h9 => h9) rfl dX11_numberNow_60 ?_
            refine lv_if_ne (tgt := 73) hx hb dX11_numberNow_63 rfl (fun c9 => absurd (c1) c9) (fun _ => ?_)
            refine lv_aload_n hx hb dX11_numberNow_66 rfl (lv_at hl 0 rfl) ?_
            refine va_get (D := (dC, dI)) (ci := 11) (v := .int (x0 5)) (C := RX11) (T := TX11) (N := 61) hx hb hts hin11 hown hK hP 0 rfl rfl 19 (Nat.le_of_ble_eq_true rfl) hw_4 (fun _ h9 => h9) rfl dX11_numberNow_67 ?_
            refine lv_goto (tgt := 74) hx hb dX11_numberNow_70 rfl ?_
            have hP9 := hP
            have hD9 := hD
            exact W.iret (v := x0 5) hx hb hr (fun t ht hW => ⟨⟨x0 5, (), rfl, ⟨b39, fun _ => (nr_ok hRr c1 c3 (Int32.not_lt.mp c6) (Int32.not_lt.mp c22) c38).2⟩, x0, hX, (show (x0 2).toInt = (x0 2).toInt from by omega), (show x0 3 = x0 3 from rfl), (show RRd tT nN x0 (numT tT 0 15 sS) from (nr_ok hRr c1 c3 (Int32.not_lt.mp c6) (Int32.not_lt.mp c22) c38).1 ▸ hRr), (show x0 1 = x0 1 from rfl), (show x0 10 = x0 10 from rfl), (show x0 21 = x0 21 from rfl), (show x0 25 = x0 25 from rfl), (show x0 23 = x0 23 from rfl), by rw [ht]; exact hP9, hD9⟩, hS.F ht⟩) hS.2.2 dX11_numberNow_74
          · have b40 : iv 16 2147483647 (x0 5) := iv_ltR (Int32.not_le.mp c38) ivk_15 b37 (by decide) (by decide)
            refine lv_aload_n hx hb dX11_numberNow_54 rfl (lv_at hl 0 rfl) ?_
            refine lv_iconst (v := 2) hx hb dX11_numberNow_55 ic_2 ?_
            obtain ⟨hPc, hDc, hFc, hJn⟩ := cl_a (wc := [(m0, .inr (11, oX11 ra x0))]) (wr := []) hP hD hS hA [0] [] rfl rfl (by decide +kernel)
            refine va_callv (va_runV (As := [.int 2]) (rest := []) ⟨hx, hb, hml, hown, hts⟩ (s11_wrong l dC dI kB kI kJ kZ kC kS s.heap.size m0 ra x0 2 tT nN sS (hX) ((iv_w ivk_2 (by decide) (by decide))) (hRr)) (cwV 1 hts gX11_numberNow_X11_wrong rfl rfl rfl (by decide +kernel) ⟨Nat.le_of_ble_eq_true rfl, Nat.le_of_ble_eq_true rfl⟩) ⟨fun a U g mk q => by obtain ⟨q0, q1, qP, qE, qD⟩ := q; exact ⟨q0, q1, qP, kE_call qE, qD⟩, va_recv hK hP (ci := 11) (q0 := 0) rfl rfl, fun U hU hW => ⟨rfl, by rw [hU], by rw [hU]; exact hPc, kE_warm hW hE, hDc.weaken (fun _ _ _ _ => trivial)⟩⟩ rfl rfl hl.1 rfl (lv_room (Nat.le_of_ble_eq_true rfl)) dX11_numberNow_56 ⟨Nat.le_of_ble_eq_true rfl, Nat.le_of_ble_eq_true rfl⟩) hS (fun q _ h => hFc q h) hFc (fun u t H locs ht hvm w42 hB hz1 hk1 hS => ?_)
            obtain ⟨y43, hq44, hq45, hq46, hq47, hq48, hq49, hq50, hq51, hq52, hq53, hP1, hD1⟩ := hB
            try dsimp only at w42
            obtain ⟨hPa, hDa⟩ := hJn (w1 := [(m0, .inr (11, oX11 ra y43))]) hk1 ht hP1 hD1
            clear hP hD hPc hDc hFc hJn hP1 hD1 hk1
            have hP : va_P (dC, dI) vwCl [(m0, .inr (11, oX11 ra y43))] H := hPa
            have hD : va_D A [(m0, .inr (11, oX11 ra y43))] := hDa
            clear hPa hDa
            refine W.widen (k := 0) (n := 0) (Nat.le_of_ble_eq_true rfl) (Nat.le_of_ble_eq_true rfl) ?_
            refine lv_aload_n hx hb dX11_numberNow_59 rfl (lv_at hl 0 rfl) ?_
            refine va_get (D := (dC, dI)) (ci := 11) (v := .int (y43 8)) (C := RX11) (T := TX11) (N := 61) hx hb hts hin11 hown hK hP 0 rfl rfl 22 (Nat.le_of_ble_eq_true rfl) hw_0 (fun _ h9 => h9) rfl dX11_numberNow_60 ?_
            refine lv_if_ne (tgt := 73) hx hb dX11_numberNow_63 rfl (fun _ => ?_) (fun c9 => absurd c9 (iv_ne hq45 ivk_0 (by decide)))
            refine lv_iload_n hx hb dX11_numberNow_73 rfl (lv_at hl 1 rfl) ?_
            have hP9 := hP
            have hD9 := hD
            exact W.iret (v := 0) hx hb hr (fun t ht hW => ⟨⟨0, (), rfl, ⟨(iv_w ivk_0 (by decide) (by decide)), fun hk => (ok_fail ((nr_3 hRr c3 (Int32.not_lt.mp c6) (Or.inr (Int32.not_le.mp c38))).symm ▸ hk)).elim⟩, y43, hq44, (show (y43 2).toInt = (x0 2).toInt from by omega), (show y43 3 = x0 3 from hq47), (show RRd tT nN y43 (numT tT 0 15 sS) from (nr_3 hRr c3 (Int32.not_lt.mp c6) (Or.inr (Int32.not_le.mp c38))) ▸ hq48), (show y43 1 = x0 1 from hq49), (show y43 10 = x0 10 from hq50), (show y43 21 = x0 21 from hq51), (show y43 25 = x0 25 from hq52), (show y43 23 = x0 23 from hq53), by rw [ht]; exact hP9, hD9⟩, hS.F ht⟩) hS.2.2 dX11_numberNow_74
    · refine lv_aload_n hx hb dX11_numberNow_17 rfl (lv_at hl 0 rfl) ?_
      refine lv_iconst (v := 1) hx hb dX11_numberNow_18 ic_1 ?_
      obtain ⟨hPc, hDc, hFc, hJn⟩ := cl_a (wc := [(m0, .inr (11, oX11 ra x0))]) (wr := []) hP hD hS hA [0] [] rfl rfl (by decide +kernel)
      refine va_callv (va_runV (As := [.int 1]) (rest := []) ⟨hx, hb, hml, hown, hts⟩ (s11_wrong l dC dI kB kI kJ kZ kC kS s.heap.size m0 ra x0 1 tT nN sS (hX) ((iv_w ivk_1 (by decide) (by decide))) (hRr)) (cwV 1 hts gX11_numberNow_X11_wrong rfl rfl rfl (by decide +kernel) ⟨Nat.le_of_ble_eq_true rfl, Nat.le_of_ble_eq_true rfl⟩) ⟨fun a U g mk q => by obtain ⟨q0, q1, qP, qE, qD⟩ := q; exact ⟨q0, q1, qP, kE_call qE, qD⟩, va_recv hK hP (ci := 11) (q0 := 0) rfl rfl, fun U hU hW => ⟨rfl, by rw [hU], by rw [hU]; exact hPc, kE_warm hW hE, hDc.weaken (fun _ _ _ _ => trivial)⟩⟩ rfl rfl hl.1 rfl (lv_room (Nat.le_of_ble_eq_true rfl)) dX11_numberNow_19 ⟨Nat.le_of_ble_eq_true rfl, Nat.le_of_ble_eq_true rfl⟩) hS (fun q _ h => hFc q h) hFc (fun u t H locs ht hvm w55 hB hz1 hk1 hS => ?_)
      obtain ⟨y56, hq57, hq58, hq59, hq60, hq61, hq62, hq63, hq64, hq65, hq66, hP1, hD1⟩ := hB
      try dsimp only at w55
      obtain ⟨hPa, hDa⟩ := hJn (w1 := [(m0, .inr (11, oX11 ra y56))]) hk1 ht hP1 hD1
      clear hP hD hPc hDc hFc hJn hP1 hD1 hk1
      have hP : va_P (dC, dI) vwCl [(m0, .inr (11, oX11 ra y56))] H := hPa
      have hD : va_D A [(m0, .inr (11, oX11 ra y56))] := hDa
      clear hPa hDa
      refine W.widen (k := 0) (n := 0) (Nat.le_of_ble_eq_true rfl) (Nat.le_of_ble_eq_true rfl) ?_
      refine lv_goto (tgt := 59) hx hb dX11_numberNow_22 rfl ?_
      refine lv_aload_n hx hb dX11_numberNow_59 rfl (lv_at hl 0 rfl) ?_
      refine va_get (D := (dC, dI)) (ci := 11) (v := .int (y56 8)) (C := RX11) (T := TX11) (N := 61) hx hb hts hin11 hown hK hP 0 rfl rfl 22 (Nat.le_of_ble_eq_true rfl) hw_0 (fun _ h9 => h9) rfl dX11_numberNow_60 ?_
      refine lv_if_ne (tgt := 73) hx hb dX11_numberNow_63 rfl (fun _ => ?_) (fun c9 => absurd c9 (iv_ne hq58 ivk_0 (by decide)))
      refine lv_iload_n hx hb dX11_numberNow_73 rfl (lv_at hl 1 rfl) ?_
      have hP9 := hP
      have hD9 := hD
      exact W.iret (v := 0) hx hb hr (fun t ht hW => ⟨⟨0, (), rfl, ⟨(iv_w ivk_0 (by decide) (by decide)), fun hk => (ok_fail ((nr_1 hRr c3).symm ▸ hk)).elim⟩, y56, hq57, (show (y56 2).toInt = (x0 2).toInt from by omega), (show y56 3 = x0 3 from hq60), (show RRd tT nN y56 (numT tT 0 15 sS) from (nr_1 hRr c3) ▸ hq61), (show y56 1 = x0 1 from hq62), (show y56 10 = x0 10 from hq63), (show y56 21 = x0 21 from hq64), (show y56 25 = x0 25 from hq65), (show y56 23 = x0 23 from hq66), by rw [ht]; exact hP9, hD9⟩, hS.F ht⟩) hS.2.2 dX11_numberNow_74
  · have b67 : iv 1 5 (x0 8) := iv_neLo c1 (hX 8 : iv 0 5 (x0 8)) ivk_0 (by decide) (by decide)
    refine lv_iload_n hx hb dX11_numberNow_7 rfl (lv_at hl 1 rfl) ?_
    have hP9 := hP
    have hD9 := hD
    exact W.iret (v := 0) hx hb hr (fun t ht hW => ⟨⟨0, (), rfl, ⟨(iv_w ivk_0 (by decide) (by decide)), fun hk => absurd (ok_num hk) (rr_no hRr c1)⟩, x0, hX, (show (x0 2).toInt = (x0 2).toInt from by omega), (show x0 3 = x0 3 from rfl), (show RRd tT nN x0 (numT tT 0 15 sS) from nr_b hRr c1 ▸ hRr), (show x0 1 = x0 1 from rfl), (show x0 10 = x0 10 from rfl), (show x0 21 = x0 21 from rfl), (show x0 25 = x0 25 from rfl), (show x0 23 = x0 23 from rfl), by rw [ht]; exact hP9, hD9⟩, hS.F ht⟩) hS.2.2 dX11_numberNow_8
def rm_s11_numberNow_1_60 : Room := { frames := 1, cells := 0, slots := 0, locals := 21 }
set_option maxHeartbeats 4000000 in
set_option maxRecDepth 100000 in
theorem s11_numberNow_1_60 (l : Launch) (dC : Nat → ClassId) (dI : Nat → Nat → Nat) (kB kI kJ kZ kC kS : ClassId) (sz : Nat) (m0 : Nat) (ra : Nat → Nat) (x0 : Nat → Int32) (tT : Nat → Int32) (nN : Int32) (sS : StT) (hX : fI lX11 hX11 x0) (hRr : RRd tT nN x0 sS) : Met l yX11_numberNow wsX11_numberNow rm_s11_numberNow_1_60 (va_Pc [.ref m0, .int 1, .int 60] (fun U => U.heap.size = sz ∧ va_P (dC, dI) vwCl [(m0, .inr (11, oX11 ra x0))] U.heap ∧ kE dC dI kB kI kJ kZ kC kS U ∧ va_D (fun _ => True) [(m0, .inr (11, oX11 ra x0))])) (va_Qi (fun (r : Int32) (_ : Unit) => iv 1 60 r ∧ (okT (numT tT 1 60 sS) → r = valS tT sS)) (fun _ t => ∃ (x0' : Nat → Int32), fI lX11 hX11 x0' ∧ ((x0' 2).toInt = (x0 2).toInt) ∧ (x0' 3 = x0 3) ∧ (RRd tT nN x0' (numT tT 1 60 sS)) ∧ (x0' 1 = x0 1) ∧ (x0' 10 = x0 10) ∧ (x0' 21 = x0 21) ∧ (x0' 25 = x0 25) ∧ (x0' 23 = x0 23) ∧ va_P (dC, dI) vwCl [(m0, .inr (11, oX11 ra x0'))] t.heap ∧ va_D (va_A [(m0, .inr (11, oX11 ra x0))] sz) [(m0, .inr (11, oX11 ra x0'))]) (va_A [(m0, .inr (11, oX11 ra x0))] sz)) 0 0 (va_A [(m0, .inr (11, oX11 ra x0))] sz) := by
  refine Met.ofW (cc := cX11_numberNow) (maxL := 3) (ret := (some .int)) (by decide) rfl ?_
  intro p e s m args0 below meth c s₁ B hml hv
  obtain ⟨hargs, hsz, hP, hE, hD0⟩ := hv
  have hx := B.exec
  have hb := B.bytes
  have hr := B.returns
  have hts := atoms_spec (ws := wsX11_numberNow) B.pre
  have hown : s.vm.findClass RX11 = some m.cls := findClass_of_methodNamed B.named
  have hlocks := B.notSynchronized
  have hK := hE.1
  have hin11 : ∀ w ∈ wsX110, w ∈ wsX11_numberNow := fun _ h9 => List.mem_cons_of_mem _ (List.mem_append_right _ h9)
  have hw_0 := hts (.fieldLink RX11 184 "PathProberModel" "bad" "I") (List.mem_of_getElem? (i := 1) rfl)
  have hw_1 := hts (.fieldLink RX11 161 "PathProberModel" "token" "I") (List.mem_of_getElem? (i := 2) rfl)
  have hw_2 := hts (.fieldLink RX11 181 "PathProberModel" "stops" "I") (List.mem_of_getElem? (i := 3) rfl)
  have hw_3 := hts (.fieldLink RX11 158 "PathProberModel" "begins" "I") (List.mem_of_getElem? (i := 4) rfl)
  have hw_4 := hts (.fieldLink RX11 171 "PathProberModel" "number" "I") (List.mem_of_getElem? (i := 5) rfl)
  subst hsz
  have hD := hD0.self (sz := s.heap.size)
  generalize hAe : va_A [(m0, .inr (11, oX11 ra x0))] s.heap.size = A at hD ⊢
  have hA : ∀ q : Nat, s.heap.size ≤ q → A q := fun q h => by rw [← hAe]; exact Or.inr h
  have hS : va_S A s.heap s.heap [] := va_S.rf
  have hP : va_P (dC, dI) vwCl [(m0, .inr (11, oX11 ra x0))] s.heap := hP
  have hl := lv_entry ([.ref m0, .int 1, .int 60]) (n := 3) (Nat.le_of_ble_eq_true rfl)
  have hla : entryFrame m args0 3 = entryFrame m ([.ref m0, .int 1, .int 60] : List Value).toArray 3 := by rw [hargs]
  rw [hla, lg_entry_eq]
  generalize (lg_sl ([.ref m0, .int 1, .int 60]) ++ List.replicate (3 - (lg_sl ([.ref m0, .int 1, .int 60])).length) Slot.unset).toArray = ls at hl ⊢
  have hl : lv_has ls 3 [(0, .ref m0), (1, .int 1), (2, .int 60)] := hl
  refine lv_aload_n hx hb dX11_numberNow_0 rfl (lv_at hl 0 rfl) ?_
  refine va_get (D := (dC, dI)) (ci := 11) (v := .int (x0 8)) (C := RX11) (T := TX11) (N := 61) hx hb hts hin11 hown hK hP 0 rfl rfl 22 (Nat.le_of_ble_eq_true rfl) hw_0 (fun _ h9 => h9) rfl dX11_numberNow_1 ?_
  refine lv_if_eq (tgt := 9) hx hb dX11_numberNow_4 rfl (fun c1 => ?_) (fun c1 => ?_)
  · have b2 : iv 0 0 (x0 8) := iv_eqL c1 ivk_0
    refine lv_aload_n hx hb dX11_numberNow_9 rfl (lv_at hl 0 rfl) ?_
    refine va_get (D := (dC, dI)) (ci := 11) (v := .int (x0 4)) (C := RX11) (T := TX11) (N := 61) hx hb hts hin11 hown hK hP 0 rfl rfl 18 (Nat.le_of_ble_eq_true rfl) hw_1 (fun _ h9 => h9) rfl dX11_numberNow_10 ?_
    refine lv_iconst (v := 2) hx hb dX11_numberNow_13 ic_2 ?_
    refine lv_icmp_eq (tgt := 25) hx hb dX11_numberNow_14 rfl (fun c3 => ?_) (fun c3 => ?_)
    · have b4 : iv 2 2 (x0 4) := iv_eqL c3 ivk_2
      refine lv_aload_n hx hb dX11_numberNow_25 rfl (lv_at hl 0 rfl) ?_
      refine va_get (D := (dC, dI)) (ci := 11) (v := .int (x0 7)) (C := RX11) (T := TX11) (N := 61) hx hb hts hin11 hown hK hP 0 rfl rfl 21 (Nat.le_of_ble_eq_true rfl) hw_2 (fun _ h9 => h9) rfl dX11_numberNow_26 ?_
      refine lv_aload_n hx hb dX11_numberNow_29 rfl (lv_at hl 0 rfl) ?_
      refine va_get (D := (dC, dI)) (ci := 11) (v := .int (x0 6)) (C := RX11) (T := TX11) (N := 61) hx hb hts hin11 hown hK hP 0 rfl rfl 20 (Nat.le_of_ble_eq_true rfl) hw_3 (fun _ h9 => h9) rfl dX11_numberNow_30 ?_
      refine lv_isub hx hb dX11_numberNow_33 ?_
      have b5 : iv (-700) 700 ((x0 7) - (x0 6)) := iv_sub (hX 7 : iv 0 700 (x0 7)) (hX 6 : iv 0 700 (x0 6)) (by decide) (by decide) (by decide) (by decide)
      refine lv_iconst (v := 2) hx hb dX11_numberNow_34 ic_2 ?_
      refine lv_icmp_gt (tgt := 54) hx hb dX11_numberNow_35 rfl (fun c6 => ?_) (fun c6 => ?_)
      · have b7 : iv 3 700 ((x0 7) - (x0 6)) := iv_ltR c6 ivk_2 b5 (by decide) (by decide)
        refine lv_aload_n hx hb dX11_numberNow_54 rfl (lv_at hl 0 rfl) ?_
        refine lv_iconst (v := 2) hx hb dX11_numberNow_55 ic_2 ?_
        obtain ⟨hPc, hDc, hFc, hJn⟩ := cl_a (wc := [(m0, .inr (11, oX11 ra x0))]) (wr := []) hP hD hS hA [0] [] rfl rfl (by decide +kernel)
        refine va_callv (va_runV (As := [.int 2]) (rest := []) ⟨hx, hb, hml, hown, hts⟩ (s11_wrong l dC dI kB kI kJ kZ kC kS s.heap.size m0 ra x0 2 tT nN sS (hX) ((iv_w ivk_2 (by decide) (by decide))) (hRr)) (cwV 1 hts gX11_numberNow_X11_wrong rfl rfl rfl (by decide +kernel) ⟨Nat.le_of_ble_eq_true rfl, Nat.le_of_ble_eq_true rfl⟩) ⟨fun a U g mk q => by obtain ⟨q0, q1, qP, qE, qD⟩ := q; exact ⟨q0, q1, qP, kE_call qE, qD⟩, va_recv hK hP (ci := 11) (q0 := 0) rfl rfl, fun U hU hW => ⟨rfl, by rw [hU], by rw [hU]; exact hPc, kE_warm hW hE, hDc.weaken (fun _ _ _ _ => trivial)⟩⟩ rfl rfl hl.1 rfl (lv_room (Nat.le_of_ble_eq_true rfl)) dX11_numberNow_56 ⟨Nat.le_of_ble_eq_true rfl, Nat.le_of_ble_eq_true rfl⟩) hS (fun q _ h => hFc q h) hFc (fun u t H locs ht hvm w9 hB hz1 hk1 hS => ?_)
        obtain ⟨y10, hq11, hq12, hq13, hq14, hq15, hq16, hq17, hq18, hq19, hq20, hP1, hD1⟩ := hB
        try dsimp only at w9
        obtain ⟨hPa, hDa⟩ := hJn (w1 := [(m0, .inr (11, oX11 ra y10))]) hk1 ht hP1 hD1
        clear hP hD hPc hDc hFc hJn hP1 hD1 hk1
        have hP : va_P (dC, dI) vwCl [(m0, .inr (11, oX11 ra y10))] H := hPa
        have hD : va_D A [(m0, .inr (11, oX11 ra y10))] := hDa
        clear hPa hDa
        refine W.widen (k := 0) (n := 0) (Nat.le_of_ble_eq_true rfl) (Nat.le_of_ble_eq_true rfl) ?_
        refine lv_aload_n hx hb dX11_numberNow_59 rfl (lv_at hl 0 rfl) ?_
        refine va_get (D := (dC, dI)) (ci := 11) (v := .int (y10 8)) (C := RX11) (T := TX11) (N := 61) hx hb hts hin11 hown hK hP 0 rfl rfl 22 (Nat.le_of_ble_eq_true rfl) hw_0 (fun _ h9 => h9) rfl dX11_numberNow_60 ?_
        refine lv_if_ne (tgt := 73) hx hb dX11_numberNow_63 rfl (fun _ => ?_) (fun c9 => absurd c9 (iv_ne hq12 ivk_0 (by decide)))
        refine lv_iload_n hx hb dX11_numberNow_73 rfl (lv_at hl 1 rfl) ?_
        have hP9 := hP
        have hD9 := hD
        exact W.iret (v := 1) hx hb hr (fun t ht hW => ⟨⟨1, (), rfl, ⟨(iv_w ivk_1 (by decide) (by decide)), fun hk => (ok_fail ((nr_2 hRr c3 c6).symm ▸ hk)).elim⟩, y10, hq11, (show (y10 2).toInt = (x0 2).toInt from by omega), (show y10 3 = x0 3 from hq14), (show RRd tT nN y10 (numT tT 1 60 sS) from (nr_2 hRr c3 c6) ▸ hq15), (show y10 1 = x0 1 from hq16), (show y10 10 = x0 10 from hq17), (show y10 21 = x0 21 from hq18), (show y10 25 = x0 25 from hq19), (show y10 23 = x0 23 from hq20), by rw [ht]; exact hP9, hD9⟩, hS.F ht⟩) hS.2.2 dX11_numberNow_74
      · have b21 : iv (-700) 2 ((x0 7) - (x0 6)) := iv_leL (Int32.not_lt.mp c6) b5 ivk_2 (by decide) (by decide)
        refine lv_aload_n hx hb dX11_numberNow_38 rfl (lv_at hl 0 rfl) ?_
        refine va_get (D := (dC, dI)) (ci := 11) (v := .int (x0 5)) (C := RX11) (T := TX11) (N := 61) hx hb hts hin11 hown hK hP 0 rfl rfl 19 (Nat.le_of_ble_eq_true rfl) hw_4 (fun _ h9 => h9) rfl dX11_numberNow_39 ?_
        refine lv_iload_n hx hb dX11_numberNow_42 rfl (lv_at hl 1 rfl) ?_
        refine lv_icmp_lt (tgt := 54) hx hb dX11_numberNow_43 rfl (fun c22 => ?_) (fun c22 => ?_)
        · have b23 : iv (-2147483648) 0 (x0 5) := iv_ltL c22 (hX 5 : iv (-2147483648) 2147483647 (x0 5)) ivk_1 (by decide) (by decide)
          refine lv_aload_n hx hb dX11_numberNow_54 rfl (lv_at hl 0 rfl) ?_
          refine lv_iconst (v := 2) hx hb dX11_numberNow_55 ic_2 ?_
          obtain ⟨hPc, hDc, hFc, hJn⟩ := cl_a (wc := [(m0, .inr (11, oX11 ra x0))]) (wr := []) hP hD hS hA [0] [] rfl rfl (by decide +kernel)
          refine va_callv (va_runV (As := [.int 2]) (rest := []) ⟨hx, hb, hml, hown, hts⟩ (s11_wrong l dC dI kB kI kJ kZ kC kS s.heap.size m0 ra x0 2 tT nN sS (hX) ((iv_w ivk_2 (by decide) (by decide))) (hRr)) (cwV 1 hts gX11_numberNow_X11_wrong rfl rfl rfl (by decide +kernel) ⟨Nat.le_of_ble_eq_true rfl, Nat.le_of_ble_eq_true rfl⟩) ⟨fun a U g mk q => by obtain ⟨q0, q1, qP, qE, qD⟩ := q; exact ⟨q0, q1, qP, kE_call qE, qD⟩, va_recv hK hP (ci := 11) (q0 := 0) rfl rfl, fun U hU hW => ⟨rfl, by rw [hU], by rw [hU]; exact hPc, kE_warm hW hE, hDc.weaken (fun _ _ _ _ => trivial)⟩⟩ rfl rfl hl.1 rfl (lv_room (Nat.le_of_ble_eq_true rfl)) dX11_numberNow_56 ⟨Nat.le_of_ble_eq_true rfl, Nat.le_of_ble_eq_true rfl⟩) hS (fun q _ h => hFc q h) hFc (fun u t H locs ht hvm w25 hB hz1 hk1 hS => ?_)
          obtain ⟨y26, hq27, hq28, hq29, hq30, hq31, hq32, hq33, hq34, hq35, hq36, hP1, hD1⟩ := hB
          try dsimp only at w25
          obtain ⟨hPa, hDa⟩ := hJn (w1 := [(m0, .inr (11, oX11 ra y26))]) hk1 ht hP1 hD1
          clear hP hD hPc hDc hFc hJn hP1 hD1 hk1
          have hP : va_P (dC, dI) vwCl [(m0, .inr (11, oX11 ra y26))] H := hPa
          have hD : va_D A [(m0, .inr (11, oX11 ra y26))] := hDa
          clear hPa hDa
          refine W.widen (k := 0) (n := 0) (Nat.le_of_ble_eq_true rfl) (Nat.le_of_ble_eq_true rfl) ?_
          refine lv_aload_n hx hb dX11_numberNow_59 rfl (lv_at hl 0 rfl) ?_
          refine va_get (D := (dC, dI)) (ci := 11) (v := .int (y26 8)) (C := RX11) (T := TX11) (N := 61) hx hb hts hin11 hown hK hP 0 rfl rfl 22 (Nat.le_of_ble_eq_true rfl) hw_0 (fun _ h9 => h9) rfl dX11_numberNow_60 ?_
          refine lv_if_ne (tgt := 73) hx hb dX11_numberNow_63 rfl (fun _ => ?_) (fun c9 => absurd c9 (iv_ne hq28 ivk_0 (by decide)))
          refine lv_iload_n hx hb dX11_numberNow_73 rfl (lv_at hl 1 rfl) ?_
          have hP9 := hP
          have hD9 := hD
          exact W.iret (v := 1) hx hb hr (fun t ht hW => ⟨⟨1, (), rfl, ⟨(iv_w ivk_1 (by decide) (by decide)), fun hk => (ok_fail ((nr_3 hRr c3 (Int32.not_lt.mp c6) (Or.inl c22)).symm ▸ hk)).elim⟩, y26, hq27, (show (y26 2).toInt = (x0 2).toInt from by omega), (show y26 3 = x0 3 from hq30), (show RRd tT nN y26 (numT tT 1 60 sS) from (nr_3 hRr c3 (Int32.not_lt.mp c6) (Or.inl c22)) ▸ hq31), (show y26 1 = x0 1 from hq32), (show y26 10 = x0 10 from hq33), (show y26 21 = x0 21 from hq34), (show y26 25 = x0 25 from hq35), (show y26 23 = x0 23 from hq36), by rw [ht]; exact hP9, hD9⟩, hS.F ht⟩) hS.2.2 dX11_numberNow_74
        · have b37 : iv 1 2147483647 (x0 5) := iv_leR (Int32.not_lt.mp c22) ivk_1 (hX 5 : iv (-2147483648) 2147483647 (x0 5)) (by decide) (by decide)
          refine lv_aload_n hx hb dX11_numberNow_46 rfl (lv_at hl 0 rfl) ?_
          refine va_get (D := (dC, dI)) (ci := 11) (v := .int (x0 5)) (C := RX11) (T := TX11) (N := 61) hx hb hts hin11 hown hK hP 0 rfl rfl 19 (Nat.le_of_ble_eq_true rfl) hw_4 (fun _ h9 => h9) rfl dX11_numberNow_47 ?_
          refine lv_iload_n hx hb dX11_numberNow_50 rfl (lv_at hl 2 rfl) ?_
          refine lv_icmp_le (tgt := 59) hx hb dX11_numberNow_51 rfl (fun c38 => ?_) (fun c38 => ?_)
          · have b39 : iv 1 60 (x0 5) := iv_leL c38 b37 ivk_60 (by decide) (by decide)
            refine lv_aload_n hx hb dX11_numberNow_59 rfl (lv_at hl 0 rfl) ?_
            refine va_get (D := (dC, dI)) (ci := 11) (v := .int (x0 8)) (C := RX11) (T := TX11) (N := 61) hx hb hts hin11 hown hK hP 0 rfl rfl 22 (Nat.le_of_ble_eq_true rfl) hw_0 (fun _ h9 => h9) rfl dX11_numberNow_60 ?_
            refine lv_if_ne (tgt := 73) hx hb dX11_numberNow_63 rfl (fun c9 => absurd (c1) c9) (fun _ => ?_)
            refine lv_aload_n hx hb dX11_numberNow_66 rfl (lv_at hl 0 rfl) ?_
            refine va_get (D := (dC, dI)) (ci := 11) (v := .int (x0 5)) (C := RX11) (T := TX11) (N := 61) hx hb hts hin11 hown hK hP 0 rfl rfl 19 (Nat.le_of_ble_eq_true rfl) hw_4 (fun _ h9 => h9) rfl dX11_numberNow_67 ?_
            refine lv_goto (tgt := 74) hx hb dX11_numberNow_70 rfl ?_
            have hP9 := hP
            have hD9 := hD
            exact W.iret (v := x0 5) hx hb hr (fun t ht hW => ⟨⟨x0 5, (), rfl, ⟨b39, fun _ => (nr_ok hRr c1 c3 (Int32.not_lt.mp c6) (Int32.not_lt.mp c22) c38).2⟩, x0, hX, (show (x0 2).toInt = (x0 2).toInt from by omega), (show x0 3 = x0 3 from rfl), (show RRd tT nN x0 (numT tT 1 60 sS) from (nr_ok hRr c1 c3 (Int32.not_lt.mp c6) (Int32.not_lt.mp c22) c38).1 ▸ hRr), (show x0 1 = x0 1 from rfl), (show x0 10 = x0 10 from rfl), (show x0 21 = x0 21 from rfl), (show x0 25 = x0 25 from rfl), (show x0 23 = x0 23 from rfl), by rw [ht]; exact hP9, hD9⟩, hS.F ht⟩) hS.2.2 dX11_numberNow_74
          · have b40 : iv 61 2147483647 (x0 5) := iv_ltR (Int32.not_le.mp c38) ivk_60 b37 (by decide) (by decide)
            refine lv_aload_n hx hb dX11_numberNow_54 rfl (lv_at hl 0 rfl) ?_
            refine lv_iconst (v := 2) hx hb dX11_numberNow_55 ic_2 ?_
            obtain ⟨hPc, hDc, hFc, hJn⟩ := cl_a (wc := [(m0, .inr (11, oX11 ra x0))]) (wr := []) hP hD hS hA [0] [] rfl rfl (by decide +kernel)
            refine va_callv (va_runV (As := [.int 2]) (rest := []) ⟨hx, hb, hml, hown, hts⟩ (s11_wrong l dC dI kB kI kJ kZ kC kS s.heap.size m0 ra x0 2 tT nN sS (hX) ((iv_w ivk_2 (by decide) (by decide))) (hRr)) (cwV 1 hts gX11_numberNow_X11_wrong rfl rfl rfl (by decide +kernel) ⟨Nat.le_of_ble_eq_true rfl, Nat.le_of_ble_eq_true rfl⟩) ⟨fun a U g mk q => by obtain ⟨q0, q1, qP, qE, qD⟩ := q; exact ⟨q0, q1, qP, kE_call qE, qD⟩, va_recv hK hP (ci := 11) (q0 := 0) rfl rfl, fun U hU hW => ⟨rfl, by rw [hU], by rw [hU]; exact hPc, kE_warm hW hE, hDc.weaken (fun _ _ _ _ => trivial)⟩⟩ rfl rfl hl.1 rfl (lv_room (Nat.le_of_ble_eq_true rfl)) dX11_numberNow_56 ⟨Nat.le_of_ble_eq_true rfl, Nat.le_of_ble_eq_true rfl⟩) hS (fun q _ h => hFc q h) hFc (fun u t H locs ht hvm w42 hB hz1 hk1 hS => ?_)
            obtain ⟨y43, hq44, hq45, hq46, hq47, hq48, hq49, hq50, hq51, hq52, hq53, hP1, hD1⟩ := hB
            try dsimp only at w42
            obtain ⟨hPa, hDa⟩ := hJn (w1 := [(m0, .inr (11, oX11 ra y43))]) hk1 ht hP1 hD1
            clear hP hD hPc hDc hFc hJn hP1 hD1 hk1
            have hP : va_P (dC, dI) vwCl [(m0, .inr (11, oX11 ra y43))] H := hPa
            have hD : va_D A [(m0, .inr (11, oX11 ra y43))] := hDa
            clear hPa hDa
            refine W.widen (k := 0) (n := 0) (Nat.le_of_ble_eq_true rfl) (Nat.le_of_ble_eq_true rfl) ?_
            refine lv_aload_n hx hb dX11_numberNow_59 rfl (lv_at hl 0 rfl) ?_
            refine va_get (D := (dC, dI)) (ci := 11) (v := .int (y43 8)) (C := RX11) (T := TX11) (N := 61) hx hb hts hin11 hown hK hP 0 rfl rfl 22 (Nat.le_of_ble_eq_true rfl) hw_0 (fun _ h9 => h9) rfl dX11_numberNow_60 ?_
            refine lv_if_ne (tgt := 73) hx hb dX11_numberNow_63 rfl (fun _ => ?_) (fun c9 => absurd c9 (iv_ne hq45 ivk_0 (by decide)))
            refine lv_iload_n hx hb dX11_numberNow_73 rfl (lv_at hl 1 rfl) ?_
            have hP9 := hP
            have hD9 := hD
            exact W.iret (v := 1) hx hb hr (fun t ht hW => ⟨⟨1, (), rfl, ⟨(iv_w ivk_1 (by decide) (by decide)), fun hk => (ok_fail ((nr_3 hRr c3 (Int32.not_lt.mp c6) (Or.inr (Int32.not_le.mp c38))).symm ▸ hk)).elim⟩, y43, hq44, (show (y43 2).toInt = (x0 2).toInt from by omega), (show y43 3 = x0 3 from hq47), (show RRd tT nN y43 (numT tT 1 60 sS) from (nr_3 hRr c3 (Int32.not_lt.mp c6) (Or.inr (Int32.not_le.mp c38))) ▸ hq48), (show y43 1 = x0 1 from hq49), (show y43 10 = x0 10 from hq50), (show y43 21 = x0 21 from hq51), (show y43 25 = x0 25 from hq52), (show y43 23 = x0 23 from hq53), by rw [ht]; exact hP9, hD9⟩, hS.F ht⟩) hS.2.2 dX11_numberNow_74
    · refine lv_aload_n hx hb dX11_numberNow_17 rfl (lv_at hl 0 rfl) ?_
      refine lv_iconst (v := 1) hx hb dX11_numberNow_18 ic_1 ?_
      obtain ⟨hPc, hDc, hFc, hJn⟩ := cl_a (wc := [(m0, .inr (11, oX11 ra x0))]) (wr := []) hP hD hS hA [0] [] rfl rfl (by decide +kernel)
      refine va_callv (va_runV (As := [.int 1]) (rest := []) ⟨hx, hb, hml, hown, hts⟩ (s11_wrong l dC dI kB kI kJ kZ kC kS s.heap.size m0 ra x0 1 tT nN sS (hX) ((iv_w ivk_1 (by decide) (by decide))) (hRr)) (cwV 1 hts gX11_numberNow_X11_wrong rfl rfl rfl (by decide +kernel) ⟨Nat.le_of_ble_eq_true rfl, Nat.le_of_ble_eq_true rfl⟩) ⟨fun a U g mk q => by obtain ⟨q0, q1, qP, qE, qD⟩ := q; exact ⟨q0, q1, qP, kE_call qE, qD⟩, va_recv hK hP (ci := 11) (q0 := 0) rfl rfl, fun U hU hW => ⟨rfl, by rw [hU], by rw [hU]; exact hPc, kE_warm hW hE, hDc.weaken (fun _ _ _ _ => trivial)⟩⟩ rfl rfl hl.1 rfl (lv_room (Nat.le_of_ble_eq_true rfl)) dX11_numberNow_19 ⟨Nat.le_of_ble_eq_true rfl, Nat.le_of_ble_eq_true rfl⟩) hS (fun q _ h => hFc q h) hFc (fun u t H locs ht hvm w55 hB hz1 hk1 hS => ?_)
      obtain ⟨y56, hq57, hq58, hq59, hq60, hq61, hq62, hq63, hq64, hq65, hq66, hP1, hD1⟩ := hB
      try dsimp only at w55
      obtain ⟨hPa, hDa⟩ := hJn (w1 := [(m0, .inr (11, oX11 ra y56))]) hk1 ht hP1 hD1
      clear hP hD hPc hDc hFc hJn hP1 hD1 hk1
      have hP : va_P (dC, dI) vwCl [(m0, .inr (11, oX11 ra y56))] H := hPa
      have hD : va_D A [(m0, .inr (11, oX11 ra y56))] := hDa
      clear hPa hDa
      refine W.widen (k := 0) (n := 0) (Nat.le_of_ble_eq_true rfl) (Nat.le_of_ble_eq_true rfl) ?_
      refine lv_goto (tgt := 59) hx hb dX11_numberNow_22 rfl ?_
      refine lv_aload_n hx hb dX11_numberNow_59 rfl (lv_at hl 0 rfl) ?_
      refine va_get (D := (dC, dI)) (ci := 11) (v := .int (y56 8)) (C := RX11) (T := TX11) (N := 61) hx hb hts hin11 hown hK hP 0 rfl rfl 22 (Nat.le_of_ble_eq_true rfl) hw_0 (fun _ h9 => h9) rfl dX11_numberNow_60 ?_
      refine lv_if_ne (tgt := 73) hx hb dX11_numberNow_63 rfl (fun _ => ?_) (fun c9 => absurd c9 (iv_ne hq58 ivk_0 (by decide)))
      refine lv_iload_n hx hb dX11_numberNow_73 rfl (lv_at hl 1 rfl) ?_
      have hP9 := hP
      have hD9 := hD
      exact W.iret (v := 1) hx hb hr (fun t ht hW => ⟨⟨1, (), rfl, ⟨(iv_w ivk_1 (by decide) (by decide)), fun hk => (ok_fail ((nr_1 hRr c3).symm ▸ hk)).elim⟩, y56, hq57, (show (y56 2).toInt = (x0 2).toInt from by omega), (show y56 3 = x0 3 from hq60), (show RRd tT nN y56 (numT tT 1 60 sS) from (nr_1 hRr c3) ▸ hq61), (show y56 1 = x0 1 from hq62), (show y56 10 = x0 10 from hq63), (show y56 21 = x0 21 from hq64), (show y56 25 = x0 25 from hq65), (show y56 23 = x0 23 from hq66), by rw [ht]; exact hP9, hD9⟩, hS.F ht⟩) hS.2.2 dX11_numberNow_74
  · have b67 : iv 1 5 (x0 8) := iv_neLo c1 (hX 8 : iv 0 5 (x0 8)) ivk_0 (by decide) (by decide)
    refine lv_iload_n hx hb dX11_numberNow_7 rfl (lv_at hl 1 rfl) ?_
    have hP9 := hP
    have hD9 := hD
    exact W.iret (v := 1) hx hb hr (fun t ht hW => ⟨⟨1, (), rfl, ⟨(iv_w ivk_1 (by decide) (by decide)), fun hk => absurd (ok_num hk) (rr_no hRr c1)⟩, x0, hX, (show (x0 2).toInt = (x0 2).toInt from by omega), (show x0 3 = x0 3 from rfl), (show RRd tT nN x0 (numT tT 1 60 sS) from nr_b hRr c1 ▸ hRr), (show x0 1 = x0 1 from rfl), (show x0 10 = x0 10 from rfl), (show x0 21 = x0 21 from rfl), (show x0 25 = x0 25 from rfl), (show x0 23 = x0 23 from rfl), by rw [ht]; exact hP9, hD9⟩, hS.F ht⟩) hS.2.2 dX11_numberNow_8
def rm_s11_numberNow_1_50 : Room := { frames := 1, cells := 0, slots := 0, locals := 21 }
set_option maxHeartbeats 4000000 in
set_option maxRecDepth 100000 in
theorem s11_numberNow_1_50 (l : Launch) (dC : Nat → ClassId) (dI : Nat → Nat → Nat) (kB kI kJ kZ kC kS : ClassId) (sz : Nat) (m0 : Nat) (ra : Nat → Nat) (x0 : Nat → Int32) (tT : Nat → Int32) (nN : Int32) (sS : StT) (hX : fI lX11 hX11 x0) (hRr : RRd tT nN x0 sS) : Met l yX11_numberNow wsX11_numberNow rm_s11_numberNow_1_50 (va_Pc [.ref m0, .int 1, .int 50] (fun U => U.heap.size = sz ∧ va_P (dC, dI) vwCl [(m0, .inr (11, oX11 ra x0))] U.heap ∧ kE dC dI kB kI kJ kZ kC kS U ∧ va_D (fun _ => True) [(m0, .inr (11, oX11 ra x0))])) (va_Qi (fun (r : Int32) (_ : Unit) => iv 1 50 r ∧ (okT (numT tT 1 50 sS) → r = valS tT sS)) (fun _ t => ∃ (x0' : Nat → Int32), fI lX11 hX11 x0' ∧ ((x0' 2).toInt = (x0 2).toInt) ∧ (x0' 3 = x0 3) ∧ (RRd tT nN x0' (numT tT 1 50 sS)) ∧ (x0' 1 = x0 1) ∧ (x0' 10 = x0 10) ∧ (x0' 21 = x0 21) ∧ (x0' 25 = x0 25) ∧ (x0' 23 = x0 23) ∧ va_P (dC, dI) vwCl [(m0, .inr (11, oX11 ra x0'))] t.heap ∧ va_D (va_A [(m0, .inr (11, oX11 ra x0))] sz) [(m0, .inr (11, oX11 ra x0'))]) (va_A [(m0, .inr (11, oX11 ra x0))] sz)) 0 0 (va_A [(m0, .inr (11, oX11 ra x0))] sz) := by
  refine Met.ofW (cc := cX11_numberNow) (maxL := 3) (ret := (some .int)) (by decide) rfl ?_
  intro p e s m args0 below meth c s₁ B hml hv
  obtain ⟨hargs, hsz, hP, hE, hD0⟩ := hv
  have hx := B.exec
  have hb := B.bytes
  have hr := B.returns
  have hts := atoms_spec (ws := wsX11_numberNow) B.pre
  have hown : s.vm.findClass RX11 = some m.cls := findClass_of_methodNamed B.named
  have hlocks := B.notSynchronized
  have hK := hE.1
  have hin11 : ∀ w ∈ wsX110, w ∈ wsX11_numberNow := fun _ h9 => List.mem_cons_of_mem _ (List.mem_append_right _ h9)
  have hw_0 := hts (.fieldLink RX11 184 "PathProberModel" "bad" "I") (List.mem_of_getElem? (i := 1) rfl)
  have hw_1 := hts (.fieldLink RX11 161 "PathProberModel" "token" "I") (List.mem_of_getElem? (i := 2) rfl)
  have hw_2 := hts (.fieldLink RX11 181 "PathProberModel" "stops" "I") (List.mem_of_getElem? (i := 3) rfl)
  have hw_3 := hts (.fieldLink RX11 158 "PathProberModel" "begins" "I") (List.mem_of_getElem? (i := 4) rfl)
  have hw_4 := hts (.fieldLink RX11 171 "PathProberModel" "number" "I") (List.mem_of_getElem? (i := 5) rfl)
  subst hsz
  have hD := hD0.self (sz := s.heap.size)
  generalize hAe : va_A [(m0, .inr (11, oX11 ra x0))] s.heap.size = A at hD ⊢
  have hA : ∀ q : Nat, s.heap.size ≤ q → A q := fun q h => by rw [← hAe]; exact Or.inr h
  have hS : va_S A s.heap s.heap [] := va_S.rf
  have hP : va_P (dC, dI) vwCl [(m0, .inr (11, oX11 ra x0))] s.heap := hP
  have hl := lv_entry ([.ref m0, .int 1, .int 50]) (n := 3) (Nat.le_of_ble_eq_true rfl)
  have hla : entryFrame m args0 3 = entryFrame m ([.ref m0, .int 1, .int 50] : List Value).toArray 3 := by rw [hargs]
  rw [hla, lg_entry_eq]
  generalize (lg_sl ([.ref m0, .int 1, .int 50]) ++ List.replicate (3 - (lg_sl ([.ref m0, .int 1, .int 50])).length) Slot.unset).toArray = ls at hl ⊢
  have hl : lv_has ls 3 [(0, .ref m0), (1, .int 1), (2, .int 50)] := hl
  refine lv_aload_n hx hb dX11_numberNow_0 rfl (lv_at hl 0 rfl) ?_
  refine va_get (D := (dC, dI)) (ci := 11) (v := .int (x0 8)) (C := RX11) (T := TX11) (N := 61) hx hb hts hin11 hown hK hP 0 rfl rfl 22 (Nat.le_of_ble_eq_true rfl) hw_0 (fun _ h9 => h9) rfl dX11_numberNow_1 ?_
  refine lv_if_eq (tgt := 9) hx hb dX11_numberNow_4 rfl (fun c1 => ?_) (fun c1 => ?_)
  · have b2 : iv 0 0 (x0 8) := iv_eqL c1 ivk_0
    refine lv_aload_n hx hb dX11_numberNow_9 rfl (lv_at hl 0 rfl) ?_
    refine va_get (D := (dC, dI)) (ci := 11) (v := .int (x0 4)) (C := RX11) (T := TX11) (N := 61) hx hb hts hin11 hown hK hP 0 rfl rfl 18 (Nat.le_of_ble_eq_true rfl) hw_1 (fun _ h9 => h9) rfl dX11_numberNow_10 ?_
    refine lv_iconst (v := 2) hx hb dX11_numberNow_13 ic_2 ?_
    refine lv_icmp_eq (tgt := 25) hx hb dX11_numberNow_14 rfl (fun c3 => ?_) (fun c3 => ?_)
    · have b4 : iv 2 2 (x0 4) := iv_eqL c3 ivk_2
      refine lv_aload_n hx hb dX11_numberNow_25 rfl (lv_at hl 0 rfl) ?_
      refine va_get (D := (dC, dI)) (ci := 11) (v := .int (x0 7)) (C := RX11) (T := TX11) (N := 61) hx hb hts hin11 hown hK hP 0 rfl rfl 21 (Nat.le_of_ble_eq_true rfl) hw_2 (fun _ h9 => h9) rfl dX11_numberNow_26 ?_
      refine lv_aload_n hx hb dX11_numberNow_29 rfl (lv_at hl 0 rfl) ?_
      refine va_get (D := (dC, dI)) (ci := 11) (v := .int (x0 6)) (C := RX11) (T := TX11) (N := 61) hx hb hts hin11 hown hK hP 0 rfl rfl 20 (Nat.le_of_ble_eq_true rfl) hw_3 (fun _ h9 => h9) rfl dX11_numberNow_30 ?_
      refine lv_isub hx hb dX11_numberNow_33 ?_
      have b5 : iv (-700) 700 ((x0 7) - (x0 6)) := iv_sub (hX 7 : iv 0 700 (x0 7)) (hX 6 : iv 0 700 (x0 6)) (by decide) (by decide) (by decide) (by decide)
      refine lv_iconst (v := 2) hx hb dX11_numberNow_34 ic_2 ?_
      refine lv_icmp_gt (tgt := 54) hx hb dX11_numberNow_35 rfl (fun c6 => ?_) (fun c6 => ?_)
      · have b7 : iv 3 700 ((x0 7) - (x0 6)) := iv_ltR c6 ivk_2 b5 (by decide) (by decide)
        refine lv_aload_n hx hb dX11_numberNow_54 rfl (lv_at hl 0 rfl) ?_
        refine lv_iconst (v := 2) hx hb dX11_numberNow_55 ic_2 ?_
        obtain ⟨hPc, hDc, hFc, hJn⟩ := cl_a (wc := [(m0, .inr (11, oX11 ra x0))]) (wr := []) hP hD hS hA [0] [] rfl rfl (by decide +kernel)
        refine va_callv (va_runV (As := [.int 2]) (rest := []) ⟨hx, hb, hml, hown, hts⟩ (s11_wrong l dC dI kB kI kJ kZ kC kS s.heap.size m0 ra x0 2 tT nN sS (hX) ((iv_w ivk_2 (by decide) (by decide))) (hRr)) (cwV 1 hts gX11_numberNow_X11_wrong rfl rfl rfl (by decide +kernel) ⟨Nat.le_of_ble_eq_true rfl, Nat.le_of_ble_eq_true rfl⟩) ⟨fun a U g mk q => by obtain ⟨q0, q1, qP, qE, qD⟩ := q; exact ⟨q0, q1, qP, kE_call qE, qD⟩, va_recv hK hP (ci := 11) (q0 := 0) rfl rfl, fun U hU hW => ⟨rfl, by rw [hU], by rw [hU]; exact hPc, kE_warm hW hE, hDc.weaken (fun _ _ _ _ => trivial)⟩⟩ rfl rfl hl.1 rfl (lv_room (Nat.le_of_ble_eq_true rfl)) dX11_numberNow_56 ⟨Nat.le_of_ble_eq_true rfl, Nat.le_of_ble_eq_true rfl⟩) hS (fun q _ h => hFc q h) hFc (fun u t H locs ht hvm w9 hB hz1 hk1 hS => ?_)
        obtain ⟨y10, hq11, hq12, hq13, hq14, hq15, hq16, hq17, hq18, hq19, hq20, hP1, hD1⟩ := hB
        try dsimp only at w9
        obtain ⟨hPa, hDa⟩ := hJn (w1 := [(m0, .inr (11, oX11 ra y10))]) hk1 ht hP1 hD1
        clear hP hD hPc hDc hFc hJn hP1 hD1 hk1
        have hP : va_P (dC, dI) vwCl [(m0, .inr (11, oX11 ra y10))] H := hPa
        have hD : va_D A [(m0, .inr (11, oX11 ra y10))] := hDa
        clear hPa hDa
        refine W.widen (k := 0) (n := 0) (Nat.le_of_ble_eq_true rfl) (Nat.le_of_ble_eq_true rfl) ?_
        refine lv_aload_n hx hb dX11_numberNow_59 rfl (lv_at hl 0 rfl) ?_
        refine va_get (D := (dC, dI)) (ci := 11) (v := .int (y10 8)) (C := RX11) (T := TX11) (N := 61) hx hb hts hin11 hown hK hP 0 rfl rfl 22 (Nat.le_of_ble_eq_true rfl) hw_0 (fun _ h9 => h9) rfl dX11_numberNow_60 ?_
        refine lv_if_ne (tgt := 73) hx hb dX11_numberNow_63 rfl (fun _ => ?_) (fun c9 => absurd c9 (iv_ne hq12 ivk_0 (by decide)))
        refine lv_iload_n hx hb dX11_numberNow_73 rfl (lv_at hl 1 rfl) ?_
        have hP9 := hP
        have hD9 := hD
        exact W.iret (v := 1) hx hb hr (fun t ht hW => ⟨⟨1, (), rfl, ⟨(iv_w ivk_1 (by decide) (by decide)), fun hk => (ok_fail ((nr_2 hRr c3 c6).symm ▸ hk)).elim⟩, y10, hq11, (show (y10 2).toInt = (x0 2).toInt from by omega), (show y10 3 = x0 3 from hq14), (show RRd tT nN y10 (numT tT 1 50 sS) from (nr_2 hRr c3 c6) ▸ hq15), (show y10 1 = x0 1 from hq16), (show y10 10 = x0 10 from hq17), (show y10 21 = x0 21 from hq18), (show y10 25 = x0 25 from hq19), (show y10 23 = x0 23 from hq20), by rw [ht]; exact hP9, hD9⟩, hS.F ht⟩) hS.2.2 dX11_numberNow_74
      · have b21 : iv (-700) 2 ((x0 7) - (x0 6)) := iv_leL (Int32.not_lt.mp c6) b5 ivk_2 (by decide) (by decide)
        refine lv_aload_n hx hb dX11_numberNow_38 rfl (lv_at hl 0 rfl) ?_
        refine va_get (D := (dC, dI)) (ci := 11) (v := .int (x0 5)) (C := RX11) (T := TX11) (N := 61) hx hb hts hin11 hown hK hP 0 rfl rfl 19 (Nat.le_of_ble_eq_true rfl) hw_4 (fun _ h9 => h9) rfl dX11_numberNow_39 ?_
        refine lv_iload_n hx hb dX11_numberNow_42 rfl (lv_at hl 1 rfl) ?_
        refine lv_icmp_lt (tgt := 54) hx hb dX11_numberNow_43 rfl (fun c22 => ?_) (fun c22 => ?_)
        · have b23 : iv (-2147483648) 0 (x0 5) := iv_ltL c22 (hX 5 : iv (-2147483648) 2147483647 (x0 5)) ivk_1 (by decide) (by decide)
          refine lv_aload_n hx hb dX11_numberNow_54 rfl (lv_at hl 0 rfl) ?_
          refine lv_iconst (v := 2) hx hb dX11_numberNow_55 ic_2 ?_
          obtain ⟨hPc, hDc, hFc, hJn⟩ := cl_a (wc := [(m0, .inr (11, oX11 ra x0))]) (wr := []) hP hD hS hA [0] [] rfl rfl (by decide +kernel)
          refine va_callv (va_runV (As := [.int 2]) (rest := []) ⟨hx, hb, hml, hown, hts⟩ (s11_wrong l dC dI kB kI kJ kZ kC kS s.heap.size m0 ra x0 2 tT nN sS (hX) ((iv_w ivk_2 (by decide) (by decide))) (hRr)) (cwV 1 hts gX11_numberNow_X11_wrong rfl rfl rfl (by decide +kernel) ⟨Nat.le_of_ble_eq_true rfl, Nat.le_of_ble_eq_true rfl⟩) ⟨fun a U g mk q => by obtain ⟨q0, q1, qP, qE, qD⟩ := q; exact ⟨q0, q1, qP, kE_call qE, qD⟩, va_recv hK hP (ci := 11) (q0 := 0) rfl rfl, fun U hU hW => ⟨rfl, by rw [hU], by rw [hU]; exact hPc, kE_warm hW hE, hDc.weaken (fun _ _ _ _ => trivial)⟩⟩ rfl rfl hl.1 rfl (lv_room (Nat.le_of_ble_eq_true rfl)) dX11_numberNow_56 ⟨Nat.le_of_ble_eq_true rfl, Nat.le_of_ble_eq_true rfl⟩) hS (fun q _ h => hFc q h) hFc (fun u t H locs ht hvm w25 hB hz1 hk1 hS => ?_)
          obtain ⟨y26, hq27, hq28, hq29, hq30, hq31, hq32, hq33, hq34, hq35, hq36, hP1, hD1⟩ := hB
          try dsimp only at w25
          obtain ⟨hPa, hDa⟩ := hJn (w1 := [(m0, .inr (11, oX11 ra y26))]) hk1 ht hP1 hD1
          clear hP hD hPc hDc hFc hJn hP1 hD1 hk1
          have hP : va_P (dC, dI) vwCl [(m0, .inr (11, oX11 ra y26))] H := hPa
          have hD : va_D A [(m0, .inr (11, oX11 ra y26))] := hDa
          clear hPa hDa
          refine W.widen (k := 0) (n := 0) (Nat.le_of_ble_eq_true rfl) (Nat.le_of_ble_eq_true rfl) ?_
          refine lv_aload_n hx hb dX11_numberNow_59 rfl (lv_at hl 0 rfl) ?_
          refine va_get (D := (dC, dI)) (ci := 11) (v := .int (y26 8)) (C := RX11) (T := TX11) (N := 61) hx hb hts hin11 hown hK hP 0 rfl rfl 22 (Nat.le_of_ble_eq_true rfl) hw_0 (fun _ h9 => h9) rfl dX11_numberNow_60 ?_
          refine lv_if_ne (tgt := 73) hx hb dX11_numberNow_63 rfl (fun _ => ?_) (fun c9 => absurd c9 (iv_ne hq28 ivk_0 (by decide)))
          refine lv_iload_n hx hb dX11_numberNow_73 rfl (lv_at hl 1 rfl) ?_
          have hP9 := hP
          have hD9 := hD
          exact W.iret (v := 1) hx hb hr (fun t ht hW => ⟨⟨1, (), rfl, ⟨(iv_w ivk_1 (by decide) (by decide)), fun hk => (ok_fail ((nr_3 hRr c3 (Int32.not_lt.mp c6) (Or.inl c22)).symm ▸ hk)).elim⟩, y26, hq27, (show (y26 2).toInt = (x0 2).toInt from by omega), (show y26 3 = x0 3 from hq30), (show RRd tT nN y26 (numT tT 1 50 sS) from (nr_3 hRr c3 (Int32.not_lt.mp c6) (Or.inl c22)) ▸ hq31), (show y26 1 = x0 1 from hq32), (show y26 10 = x0 10 from hq33), (show y26 21 = x0 21 from hq34), (show y26 25 = x0 25 from hq35), (show y26 23 = x0 23 from hq36), by rw [ht]; exact hP9, hD9⟩, hS.F ht⟩) hS.2.2 dX11_numberNow_74
        · have b37 : iv 1 2147483647 (x0 5) := iv_leR (Int32.not_lt.mp c22) ivk_1 (hX 5 : iv (-2147483648) 2147483647 (x0 5)) (by decide) (by decide)
          refine lv_aload_n hx hb dX11_numberNow_46 rfl (lv_at hl 0 rfl) ?_
          refine va_get (D := (dC, dI)) (ci := 11) (v := .int (x0 5)) (C := RX11) (T := TX11) (N := 61) hx hb hts hin11 hown hK hP 0 rfl rfl 19 (Nat.le_of_ble_eq_true rfl) hw_4 (fun _ h9 => h9) rfl dX11_numberNow_47 ?_
          refine lv_iload_n hx hb dX11_numberNow_50 rfl (lv_at hl 2 rfl) ?_
          refine lv_icmp_le (tgt := 59) hx hb dX11_numberNow_51 rfl (fun c38 => ?_) (fun c38 => ?_)
          · have b39 : iv 1 50 (x0 5) := iv_leL c38 b37 ivk_50 (by decide) (by decide)
            refine lv_aload_n hx hb dX11_numberNow_59 rfl (lv_at hl 0 rfl) ?_
            refine va_get (D := (dC, dI)) (ci := 11) (v := .int (x0 8)) (C := RX11) (T := TX11) (N := 61) hx hb hts hin11 hown hK hP 0 rfl rfl 22 (Nat.le_of_ble_eq_true rfl) hw_0 (fun _ h9 => h9) rfl dX11_numberNow_60 ?_
            refine lv_if_ne (tgt := 73) hx hb dX11_numberNow_63 rfl (fun c9 => absurd (c1) c9) (fun _ => ?_)
            refine lv_aload_n hx hb dX11_numberNow_66 rfl (lv_at hl 0 rfl) ?_
            refine va_get (D := (dC, dI)) (ci := 11) (v := .int (x0 5)) (C := RX11) (T := TX11) (N := 61) hx hb hts hin11 hown hK hP 0 rfl rfl 19 (Nat.le_of_ble_eq_true rfl) hw_4 (fun _ h9 => h9) rfl dX11_numberNow_67 ?_
            refine lv_goto (tgt := 74) hx hb dX11_numberNow_70 rfl ?_
            have hP9 := hP
            have hD9 := hD
            exact W.iret (v := x0 5) hx hb hr (fun t ht hW => ⟨⟨x0 5, (), rfl, ⟨b39, fun _ => (nr_ok hRr c1 c3 (Int32.not_lt.mp c6) (Int32.not_lt.mp c22) c38).2⟩, x0, hX, (show (x0 2).toInt = (x0 2).toInt from by omega), (show x0 3 = x0 3 from rfl), (show RRd tT nN x0 (numT tT 1 50 sS) from (nr_ok hRr c1 c3 (Int32.not_lt.mp c6) (Int32.not_lt.mp c22) c38).1 ▸ hRr), (show x0 1 = x0 1 from rfl), (show x0 10 = x0 10 from rfl), (show x0 21 = x0 21 from rfl), (show x0 25 = x0 25 from rfl), (show x0 23 = x0 23 from rfl), by rw [ht]; exact hP9, hD9⟩, hS.F ht⟩) hS.2.2 dX11_numberNow_74
          · have b40 : iv 51 2147483647 (x0 5) := iv_ltR (Int32.not_le.mp c38) ivk_50 b37 (by decide) (by decide)
            refine lv_aload_n hx hb dX11_numberNow_54 rfl (lv_at hl 0 rfl) ?_
            refine lv_iconst (v := 2) hx hb dX11_numberNow_55 ic_2 ?_
            obtain ⟨hPc, hDc, hFc, hJn⟩ := cl_a (wc := [(m0, .inr (11, oX11 ra x0))]) (wr := []) hP hD hS hA [0] [] rfl rfl (by decide +kernel)
            refine va_callv (va_runV (As := [.int 2]) (rest := []) ⟨hx, hb, hml, hown, hts⟩ (s11_wrong l dC dI kB kI kJ kZ kC kS s.heap.size m0 ra x0 2 tT nN sS (hX) ((iv_w ivk_2 (by decide) (by decide))) (hRr)) (cwV 1 hts gX11_numberNow_X11_wrong rfl rfl rfl (by decide +kernel) ⟨Nat.le_of_ble_eq_true rfl, Nat.le_of_ble_eq_true rfl⟩) ⟨fun a U g mk q => by obtain ⟨q0, q1, qP, qE, qD⟩ := q; exact ⟨q0, q1, qP, kE_call qE, qD⟩, va_recv hK hP (ci := 11) (q0 := 0) rfl rfl, fun U hU hW => ⟨rfl, by rw [hU], by rw [hU]; exact hPc, kE_warm hW hE, hDc.weaken (fun _ _ _ _ => trivial)⟩⟩ rfl rfl hl.1 rfl (lv_room (Nat.le_of_ble_eq_true rfl)) dX11_numberNow_56 ⟨Nat.le_of_ble_eq_true rfl, Nat.le_of_ble_eq_true rfl⟩) hS (fun q _ h => hFc q h) hFc (fun u t H locs ht hvm w42 hB hz1 hk1 hS => ?_)
            obtain ⟨y43, hq44, hq45, hq46, hq47, hq48, hq49, hq50, hq51, hq52, hq53, hP1, hD1⟩ := hB
            try dsimp only at w42
            obtain ⟨hPa, hDa⟩ := hJn (w1 := [(m0, .inr (11, oX11 ra y43))]) hk1 ht hP1 hD1
            clear hP hD hPc hDc hFc hJn hP1 hD1 hk1
            have hP : va_P (dC, dI) vwCl [(m0, .inr (11, oX11 ra y43))] H := hPa
            have hD : va_D A [(m0, .inr (11, oX11 ra y43))] := hDa
            clear hPa hDa
            refine W.widen (k := 0) (n := 0) (Nat.le_of_ble_eq_true rfl) (Nat.le_of_ble_eq_true rfl) ?_
            refine lv_aload_n hx hb dX11_numberNow_59 rfl (lv_at hl 0 rfl) ?_
            refine va_get (D := (dC, dI)) (ci := 11) (v := .int (y43 8)) (C := RX11) (T := TX11) (N := 61) hx hb hts hin11 hown hK hP 0 rfl rfl 22 (Nat.le_of_ble_eq_true rfl) hw_0 (fun _ h9 => h9) rfl dX11_numberNow_60 ?_
            refine lv_if_ne (tgt := 73) hx hb dX11_numberNow_63 rfl (fun _ => ?_) (fun c9 => absurd c9 (iv_ne hq45 ivk_0 (by decide)))
            refine lv_iload_n hx hb dX11_numberNow_73 rfl (lv_at hl 1 rfl) ?_
            have hP9 := hP
            have hD9 := hD
            exact W.iret (v := 1) hx hb hr (fun t ht hW => ⟨⟨1, (), rfl, ⟨(iv_w ivk_1 (by decide) (by decide)), fun hk => (ok_fail ((nr_3 hRr c3 (Int32.not_lt.mp c6) (Or.inr (Int32.not_le.mp c38))).symm ▸ hk)).elim⟩, y43, hq44, (show (y43 2).toInt = (x0 2).toInt from by omega), (show y43 3 = x0 3 from hq47), (show RRd tT nN y43 (numT tT 1 50 sS) from (nr_3 hRr c3 (Int32.not_lt.mp c6) (Or.inr (Int32.not_le.mp c38))) ▸ hq48), (show y43 1 = x0 1 from hq49), (show y43 10 = x0 10 from hq50), (show y43 21 = x0 21 from hq51), (show y43 25 = x0 25 from hq52), (show y43 23 = x0 23 from hq53), by rw [ht]; exact hP9, hD9⟩, hS.F ht⟩) hS.2.2 dX11_numberNow_74
    · refine lv_aload_n hx hb dX11_numberNow_17 rfl (lv_at hl 0 rfl) ?_
      refine lv_iconst (v := 1) hx hb dX11_numberNow_18 ic_1 ?_
      obtain ⟨hPc, hDc, hFc, hJn⟩ := cl_a (wc := [(m0, .inr (11, oX11 ra x0))]) (wr := []) hP hD hS hA [0] [] rfl rfl (by decide +kernel)
      refine va_callv (va_runV (As := [.int 1]) (rest := []) ⟨hx, hb, hml, hown, hts⟩ (s11_wrong l dC dI kB kI kJ kZ kC kS s.heap.size m0 ra x0 1 tT nN sS (hX) ((iv_w ivk_1 (by decide) (by decide))) (hRr)) (cwV 1 hts gX11_numberNow_X11_wrong rfl rfl rfl (by decide +kernel) ⟨Nat.le_of_ble_eq_true rfl, Nat.le_of_ble_eq_true rfl⟩) ⟨fun a U g mk q => by obtain ⟨q0, q1, qP, qE, qD⟩ := q; exact ⟨q0, q1, qP, kE_call qE, qD⟩, va_recv hK hP (ci := 11) (q0 := 0) rfl rfl, fun U hU hW => ⟨rfl, by rw [hU], by rw [hU]; exact hPc, kE_warm hW hE, hDc.weaken (fun _ _ _ _ => trivial)⟩⟩ rfl rfl hl.1 rfl (lv_room (Nat.le_of_ble_eq_true rfl)) dX11_numberNow_19 ⟨Nat.le_of_ble_eq_true rfl, Nat.le_of_ble_eq_true rfl⟩) hS (fun q _ h => hFc q h) hFc (fun u t H locs ht hvm w55 hB hz1 hk1 hS => ?_)
      obtain ⟨y56, hq57, hq58, hq59, hq60, hq61, hq62, hq63, hq64, hq65, hq66, hP1, hD1⟩ := hB
      try dsimp only at w55
      obtain ⟨hPa, hDa⟩ := hJn (w1 := [(m0, .inr (11, oX11 ra y56))]) hk1 ht hP1 hD1
      clear hP hD hPc hDc hFc hJn hP1 hD1 hk1
      have hP : va_P (dC, dI) vwCl [(m0, .inr (11, oX11 ra y56))] H := hPa
      have hD : va_D A [(m0, .inr (11, oX11 ra y56))] := hDa
      clear hPa hDa
      refine W.widen (k := 0) (n := 0) (Nat.le_of_ble_eq_true rfl) (Nat.le_of_ble_eq_true rfl) ?_
      refine lv_goto (tgt := 59) hx hb dX11_numberNow_22 rfl ?_
      refine lv_aload_n hx hb dX11_numberNow_59 rfl (lv_at hl 0 rfl) ?_
      refine va_get (D := (dC, dI)) (ci := 11) (v := .int (y56 8)) (C := RX11) (T := TX11) (N := 61) hx hb hts hin11 hown hK hP 0 rfl rfl 22 (Nat.le_of_ble_eq_true rfl) hw_0 (fun _ h9 => h9) rfl dX11_numberNow_60 ?_
      refine lv_if_ne (tgt := 73) hx hb dX11_numberNow_63 rfl (fun _ => ?_) (fun c9 => absurd c9 (iv_ne hq58 ivk_0 (by decide)))
      refine lv_iload_n hx hb dX11_numberNow_73 rfl (lv_at hl 1 rfl) ?_
      have hP9 := hP
      have hD9 := hD
      exact W.iret (v := 1) hx hb hr (fun t ht hW => ⟨⟨1, (), rfl, ⟨(iv_w ivk_1 (by decide) (by decide)), fun hk => (ok_fail ((nr_1 hRr c3).symm ▸ hk)).elim⟩, y56, hq57, (show (y56 2).toInt = (x0 2).toInt from by omega), (show y56 3 = x0 3 from hq60), (show RRd tT nN y56 (numT tT 1 50 sS) from (nr_1 hRr c3) ▸ hq61), (show y56 1 = x0 1 from hq62), (show y56 10 = x0 10 from hq63), (show y56 21 = x0 21 from hq64), (show y56 25 = x0 25 from hq65), (show y56 23 = x0 23 from hq66), by rw [ht]; exact hP9, hD9⟩, hS.F ht⟩) hS.2.2 dX11_numberNow_74
  · have b67 : iv 1 5 (x0 8) := iv_neLo c1 (hX 8 : iv 0 5 (x0 8)) ivk_0 (by decide) (by decide)
    refine lv_iload_n hx hb dX11_numberNow_7 rfl (lv_at hl 1 rfl) ?_
    have hP9 := hP
    have hD9 := hD
    exact W.iret (v := 1) hx hb hr (fun t ht hW => ⟨⟨1, (), rfl, ⟨(iv_w ivk_1 (by decide) (by decide)), fun hk => absurd (ok_num hk) (rr_no hRr c1)⟩, x0, hX, (show (x0 2).toInt = (x0 2).toInt from by omega), (show x0 3 = x0 3 from rfl), (show RRd tT nN x0 (numT tT 1 50 sS) from nr_b hRr c1 ▸ hRr), (show x0 1 = x0 1 from rfl), (show x0 10 = x0 10 from rfl), (show x0 21 = x0 21 from rfl), (show x0 25 = x0 25 from rfl), (show x0 23 = x0 23 from rfl), by rw [ht]; exact hP9, hD9⟩, hS.F ht⟩) hS.2.2 dX11_numberNow_8
def rm_s11_readNumber_0_15 : Room := { frames := 2, cells := 0, slots := 0, locals := 43 }
set_option maxHeartbeats 4000000 in
set_option maxRecDepth 100000 in
theorem s11_readNumber_0_15 (l : Launch) (dC : Nat → ClassId) (dI : Nat → Nat → Nat) (kB kI kJ kZ kC kS : ClassId) (sz : Nat) (m0 : Nat) (ra : Nat → Nat) (x0 : Nat → Int32) (q_tape : Nat → Int32) (tT : Nat → Int32) (nN : Int32) (sS : StT) (hX : fI lX11 hX11 x0) (hq_tape : fI (fun _ => 0) (fun _ => 255) q_tape) (hRr : RRd tT nN x0 sS) (hTQ : tT = q_tape) : Met l yX11_readNumber wsX11_readNumber rm_s11_readNumber_0_15 (va_Pc [.ref m0, .int 0, .int 15] (fun U => U.heap.size = sz ∧ va_P (dC, dI) vwCl [(m0, .inr (11, oX11 ra x0)), (ra 13, .inl (kI, 700, .inl q_tape))] U.heap ∧ kE dC dI kB kI kJ kZ kC kS U ∧ va_D (fun _ => True) [(m0, .inr (11, oX11 ra x0)), (ra 13, .inl (kI, 700, .inl q_tape))])) (va_Qi (fun (r : Int32) (_ : Unit) => iv 0 15 r ∧ (okT (numT tT 0 15 sS) → r = valS tT sS)) (fun _ t => ∃ (x0' : Nat → Int32), fI lX11 hX11 x0' ∧ ((x0 2).toInt ≤ (x0' 2).toInt) ∧ (x0' 3 = x0 3) ∧ (RRd tT nN x0' (nextT tT nN (numT tT 0 15 sS))) ∧ (x0' 1 = x0 1) ∧ (x0' 10 = x0 10) ∧ (x0' 21 = x0 21) ∧ (x0' 25 = x0 25) ∧ (x0' 23 = x0 23) ∧ va_P (dC, dI) vwCl [(m0, .inr (11, oX11 ra x0')), (ra 13, .inl (kI, 700, .inl q_tape))] t.heap ∧ va_D (va_A [(m0, .inr (11, oX11 ra x0)), (ra 13, .inl (kI, 700, .inl q_tape))] sz) [(m0, .inr (11, oX11 ra x0')), (ra 13, .inl (kI, 700, .inl q_tape))]) (va_A [(m0, .inr (11, oX11 ra x0)), (ra 13, .inl (kI, 700, .inl q_tape))] sz)) 0 0 (va_A [(m0, .inr (11, oX11 ra x0)), (ra 13, .inl (kI, 700, .inl q_tape))] sz) := by
  refine Met.ofW (cc := cX11_readNumber) (maxL := 4) (ret := (some .int)) (by decide) rfl ?_
  intro p e s m args0 below meth c s₁ B hml hv
  obtain ⟨hargs, hsz, hP, hE, hD0⟩ := hv
  have hx := B.exec
  have hb := B.bytes
  have hr := B.returns
  have hts := atoms_spec (ws := wsX11_readNumber) B.pre
  have hown : s.vm.findClass RX11 = some m.cls := findClass_of_methodNamed B.named
  have hlocks := B.notSynchronized
  have hK := hE.1
  have hin11 : ∀ w ∈ wsX110, w ∈ wsX11_readNumber := fun _ h9 => List.mem_cons_of_mem _ (List.mem_append_right _ h9)
  have hw_0 := hts (.fieldLink RX11 184 "PathProberModel" "bad" "I") (List.mem_of_getElem? (i := 1) rfl)
  subst hsz
  have hD := hD0.self (sz := s.heap.size)
  generalize hAe : va_A [(m0, .inr (11, oX11 ra x0)), (ra 13, .inl (kI, 700, .inl q_tape))] s.heap.size = A at hD ⊢
  have hA : ∀ q : Nat, s.heap.size ≤ q → A q := fun q h => by rw [← hAe]; exact Or.inr h
  have hS : va_S A s.heap s.heap [] := va_S.rf
  have hP : va_P (dC, dI) vwCl [(m0, .inr (11, oX11 ra x0)), (ra 13, .inl (kI, 700, .inl q_tape))] s.heap := hP
  have hl := lv_entry ([.ref m0, .int 0, .int 15]) (n := 4) (Nat.le_of_ble_eq_true rfl)
  have hla : entryFrame m args0 4 = entryFrame m ([.ref m0, .int 0, .int 15] : List Value).toArray 4 := by rw [hargs]
  rw [hla, lg_entry_eq]
  generalize (lg_sl ([.ref m0, .int 0, .int 15]) ++ List.replicate (4 - (lg_sl ([.ref m0, .int 0, .int 15])).length) Slot.unset).toArray = ls at hl ⊢
  have hl : lv_has ls 4 [(0, .ref m0), (1, .int 0), (2, .int 15)] := hl
  refine lv_aload_n hx hb dX11_readNumber_0 rfl (lv_at hl 0 rfl) ?_
  refine lv_iload_n hx hb dX11_readNumber_1 rfl (lv_at hl 1 rfl) ?_
  refine lv_iload_n hx hb dX11_readNumber_2 rfl (lv_at hl 2 rfl) ?_
  obtain ⟨hPc, hDc, hFc, hJn⟩ := cl_a (wc := [(m0, .inr (11, oX11 ra x0))]) (wr := [(ra 13, .inl (kI, 700, .inl q_tape))]) hP hD hS hA [0] [1] rfl rfl (by decide +kernel)
  refine va_calli (va_runV (As := [.int 0, .int 15]) (rest := []) ⟨hx, hb, hml, hown, hts⟩ (s11_numberNow_0_15 l dC dI kB kI kJ kZ kC kS s.heap.size m0 ra x0 tT nN sS (hX) (hRr)) (cwV 2 hts gX11_readNumber_X11_numberNow rfl rfl rfl (by decide +kernel) ⟨Nat.le_of_ble_eq_true rfl, Nat.le_of_ble_eq_true rfl⟩) ⟨fun a U g mk q => by obtain ⟨q0, q1, qP, qE, qD⟩ := q; exact ⟨q0, q1, qP, kE_call qE, qD⟩, va_recv hK hP (ci := 11) (q0 := 0) rfl rfl, fun U hU hW => ⟨rfl, by rw [hU], by rw [hU]; exact hPc, kE_warm hW hE, hDc.weaken (fun _ _ _ _ => trivial)⟩⟩ rfl rfl hl.1 rfl (lv_room (Nat.le_of_ble_eq_true rfl)) dX11_readNumber_3 ⟨Nat.le_of_ble_eq_true rfl, Nat.le_of_ble_eq_true rfl⟩) hS (fun q _ h => hFc q h) hFc (fun r1 u t H locs ht hvm w2 hB hz1 hk1 hS => ?_)
  obtain ⟨y3, hq4, hq5, hq6, hq7, hq8, hq9, hq10, hq11, hq12, hP1, hD1⟩ := hB
  try dsimp only at w2
  obtain ⟨hPa, hDa⟩ := hJn (w1 := [(m0, .inr (11, oX11 ra y3))]) hk1 ht hP1 hD1
  clear hP hD hPc hDc hFc hJn hP1 hD1 hk1
  have hP : va_P (dC, dI) vwCl [(ra 13, .inl (kI, 700, .inl q_tape)), (m0, .inr (11, oX11 ra y3))] H := hPa
  have hD : va_D A [(ra 13, .inl (kI, 700, .inl q_tape)), (m0, .inr (11, oX11 ra y3))] := hDa
  clear hPa hDa
  refine W.widen (k := 0) (n := 0) (Nat.le_of_ble_eq_true rfl) (Nat.le_of_ble_eq_true rfl) ?_
  have hv9 := w2.2
  refine lv_istore_n (lv' := [(3, .int r1), (0, .ref m0), (1, .int 0), (2, .int 15)]) hx hb dX11_readNumber_6 rfl hl (Nat.le_of_ble_eq_true rfl) rfl (fun ls hl => ?_)
  refine lv_aload_n hx hb dX11_readNumber_7 rfl (lv_at hl 1 rfl) ?_
  refine va_get (D := (dC, dI)) (ci := 11) (v := .int (y3 8)) (C := RX11) (T := TX11) (N := 61) hx hb hts hin11 hown hK hP 1 rfl rfl 22 (Nat.le_of_ble_eq_true rfl) hw_0 (fun _ h9 => h9) rfl dX11_readNumber_8 ?_
  refine lv_if_ne (tgt := 18) hx hb dX11_readNumber_11 rfl (fun c13 => ?_) (fun c13 => ?_)
  · have b14 : iv 1 5 (y3 8) := iv_neLo c13 (hq4 8 : iv 0 5 (y3 8)) ivk_0 (by decide) (by decide)
    refine lv_iload_n hx hb dX11_readNumber_18 rfl (lv_at hl 0 rfl) ?_
    have hPD9 := cl_s (wc := [(m0, .inr (11, oX11 ra y3)), (ra 13, .inl (kI, 700, .inl q_tape))]) hP hD [1, 0] rfl (by decide +kernel)
    have hP9 := hPD9.1
    have hD9 := hPD9.2
    exact W.iret (v := r1) hx hb hr (fun t ht hW => ⟨⟨r1, (), rfl, ⟨w2.1, hv9⟩, y3, hq4, (show (x0 2).toInt ≤ (y3 2).toInt from by omega), (show y3 3 = x0 3 from hq6), (show RRd tT nN y3 (nextT tT nN (numT tT 0 15 sS)) from rr_stepN hq7 c13), (show y3 1 = x0 1 from hq8), (show y3 10 = x0 10 from hq9), (show y3 21 = x0 21 from hq10), (show y3 25 = x0 25 from hq11), (show y3 23 = x0 23 from hq12), by rw [ht]; exact hP9, hD9⟩, hS.F ht⟩) hS.2.2 dX11_readNumber_19
  · have b15 : iv 0 0 (y3 8) := iv_eqL c13 ivk_0
    refine lv_aload_n hx hb dX11_readNumber_14 rfl (lv_at hl 1 rfl) ?_
    obtain ⟨hPc, hDc, hFc, hJn⟩ := cl_a (wc := [(m0, .inr (11, oX11 ra y3)), (ra 13, .inl (kI, 700, .inl q_tape))]) (wr := []) hP hD hS hA [1, 0] [] rfl rfl (by decide +kernel)
    refine va_callv (va_runV (As := []) (rest := []) ⟨hx, hb, hml, hown, hts⟩ (s11_stepOn l dC dI kB kI kJ kZ kC kS H.size m0 ra y3 q_tape tT nN (nextT tT nN (numT tT 0 15 sS)) (hq4) (hq_tape) (hq7.2) (stp_of hq7) (hTQ)) (cwV 0 hts gX11_readNumber_X11_stepOn rfl rfl rfl (by decide +kernel) ⟨Nat.le_of_ble_eq_true rfl, Nat.le_of_ble_eq_true rfl⟩) ⟨fun a U g mk q => by obtain ⟨q0, q1, qP, qE, qD⟩ := q; exact ⟨q0, q1, qP, kE_call qE, qD⟩, va_recv hK hP (ci := 11) (q0 := 1) rfl rfl, fun U hU hW => ⟨rfl, by rw [hU], by rw [hU]; exact hPc, kE_warm hW hE, hDc.weaken (fun _ _ _ _ => trivial)⟩⟩ rfl rfl hl.1 rfl (lv_room (Nat.le_of_ble_eq_true rfl)) dX11_readNumber_15 ⟨Nat.le_of_ble_eq_true rfl, Nat.le_of_ble_eq_true rfl⟩) hS (fun q _ h => hFc q h) hFc (fun u t H locs ht hvm w17 hB hz1 hk1 hS => ?_)
    obtain ⟨y18, hq19, hq20, hq21, hq22, hq23, hq24, hq25, hq26, hq27, hq28, hP1, hD1⟩ := hB
    try dsimp only at w17
    obtain ⟨hPa, hDa⟩ := hJn (w1 := [(m0, .inr (11, oX11 ra y18)), (ra 13, .inl (kI, 700, .inl q_tape))]) hk1 ht hP1 hD1
    clear hP hD hPc hDc hFc hJn hP1 hD1 hk1
    have hP : va_P (dC, dI) vwCl [(m0, .inr (11, oX11 ra y18)), (ra 13, .inl (kI, 700, .inl q_tape))] H := hPa
    have hD : va_D A [(m0, .inr (11, oX11 ra y18)), (ra 13, .inl (kI, 700, .inl q_tape))] := hDa
    clear hPa hDa
    refine W.widen (k := 0) (n := 0) (Nat.le_of_ble_eq_true rfl) (Nat.le_of_ble_eq_true rfl) ?_
    refine lv_iload_n hx hb dX11_readNumber_18 rfl (lv_at hl 0 rfl) ?_
    have hP9 := hP
    have hD9 := hD
    exact W.iret (v := r1) hx hb hr (fun t ht hW => ⟨⟨r1, (), rfl, ⟨w2.1, hv9⟩, y18, hq19, (show (x0 2).toInt ≤ (y18 2).toInt from by omega), (show y18 3 = x0 3 from hq21.trans (hq6)), (show RRd tT nN y18 (nextT tT nN (numT tT 0 15 sS)) from hq23), (show y18 1 = x0 1 from hq24.trans (hq8)), (show y18 10 = x0 10 from hq25.trans (hq9)), (show y18 21 = x0 21 from hq26.trans (hq10)), (show y18 25 = x0 25 from hq27.trans (hq11)), (show y18 23 = x0 23 from hq28.trans (hq12)), by rw [ht]; exact hP9, hD9⟩, hS.F ht⟩) hS.2.2 dX11_readNumber_19
def rm_s11_readNumber_1_60 : Room := { frames := 2, cells := 0, slots := 0, locals := 43 }
set_option maxHeartbeats 4000000 in
set_option maxRecDepth 100000 in
theorem s11_readNumber_1_60 (l : Launch) (dC : Nat → ClassId) (dI : Nat → Nat → Nat) (kB kI kJ kZ kC kS : ClassId) (sz : Nat) (m0 : Nat) (ra : Nat → Nat) (x0 : Nat → Int32) (q_tape : Nat → Int32) (tT : Nat → Int32) (nN : Int32) (sS : StT) (hX : fI lX11 hX11 x0) (hq_tape : fI (fun _ => 0) (fun _ => 255) q_tape) (hRr : RRd tT nN x0 sS) (hTQ : tT = q_tape) : Met l yX11_readNumber wsX11_readNumber rm_s11_readNumber_1_60 (va_Pc [.ref m0, .int 1, .int 60] (fun U => U.heap.size = sz ∧ va_P (dC, dI) vwCl [(m0, .inr (11, oX11 ra x0)), (ra 13, .inl (kI, 700, .inl q_tape))] U.heap ∧ kE dC dI kB kI kJ kZ kC kS U ∧ va_D (fun _ => True) [(m0, .inr (11, oX11 ra x0)), (ra 13, .inl (kI, 700, .inl q_tape))])) (va_Qi (fun (r : Int32) (_ : Unit) => iv 1 60 r ∧ (okT (numT tT 1 60 sS) → r = valS tT sS)) (fun _ t => ∃ (x0' : Nat → Int32), fI lX11 hX11 x0' ∧ ((x0 2).toInt ≤ (x0' 2).toInt) ∧ (x0' 3 = x0 3) ∧ (RRd tT nN x0' (nextT tT nN (numT tT 1 60 sS))) ∧ (x0' 1 = x0 1) ∧ (x0' 10 = x0 10) ∧ (x0' 21 = x0 21) ∧ (x0' 25 = x0 25) ∧ (x0' 23 = x0 23) ∧ va_P (dC, dI) vwCl [(m0, .inr (11, oX11 ra x0')), (ra 13, .inl (kI, 700, .inl q_tape))] t.heap ∧ va_D (va_A [(m0, .inr (11, oX11 ra x0)), (ra 13, .inl (kI, 700, .inl q_tape))] sz) [(m0, .inr (11, oX11 ra x0')), (ra 13, .inl (kI, 700, .inl q_tape))]) (va_A [(m0, .inr (11, oX11 ra x0)), (ra 13, .inl (kI, 700, .inl q_tape))] sz)) 0 0 (va_A [(m0, .inr (11, oX11 ra x0)), (ra 13, .inl (kI, 700, .inl q_tape))] sz) := by
  refine Met.ofW (cc := cX11_readNumber) (maxL := 4) (ret := (some .int)) (by decide) rfl ?_
  intro p e s m args0 below meth c s₁ B hml hv
  obtain ⟨hargs, hsz, hP, hE, hD0⟩ := hv
  have hx := B.exec
  have hb := B.bytes
  have hr := B.returns
  have hts := atoms_spec (ws := wsX11_readNumber) B.pre
  have hown : s.vm.findClass RX11 = some m.cls := findClass_of_methodNamed B.named
  have hlocks := B.notSynchronized
  have hK := hE.1
  have hin11 : ∀ w ∈ wsX110, w ∈ wsX11_readNumber := fun _ h9 => List.mem_cons_of_mem _ (List.mem_append_right _ h9)
  have hw_0 := hts (.fieldLink RX11 184 "PathProberModel" "bad" "I") (List.mem_of_getElem? (i := 1) rfl)
  subst hsz
  have hD := hD0.self (sz := s.heap.size)
  generalize hAe : va_A [(m0, .inr (11, oX11 ra x0)), (ra 13, .inl (kI, 700, .inl q_tape))] s.heap.size = A at hD ⊢
  have hA : ∀ q : Nat, s.heap.size ≤ q → A q := fun q h => by rw [← hAe]; exact Or.inr h
  have hS : va_S A s.heap s.heap [] := va_S.rf
  have hP : va_P (dC, dI) vwCl [(m0, .inr (11, oX11 ra x0)), (ra 13, .inl (kI, 700, .inl q_tape))] s.heap := hP
  have hl := lv_entry ([.ref m0, .int 1, .int 60]) (n := 4) (Nat.le_of_ble_eq_true rfl)
  have hla : entryFrame m args0 4 = entryFrame m ([.ref m0, .int 1, .int 60] : List Value).toArray 4 := by rw [hargs]
  rw [hla, lg_entry_eq]
  generalize (lg_sl ([.ref m0, .int 1, .int 60]) ++ List.replicate (4 - (lg_sl ([.ref m0, .int 1, .int 60])).length) Slot.unset).toArray = ls at hl ⊢
  have hl : lv_has ls 4 [(0, .ref m0), (1, .int 1), (2, .int 60)] := hl
  refine lv_aload_n hx hb dX11_readNumber_0 rfl (lv_at hl 0 rfl) ?_
  refine lv_iload_n hx hb dX11_readNumber_1 rfl (lv_at hl 1 rfl) ?_
  refine lv_iload_n hx hb dX11_readNumber_2 rfl (lv_at hl 2 rfl) ?_
  obtain ⟨hPc, hDc, hFc, hJn⟩ := cl_a (wc := [(m0, .inr (11, oX11 ra x0))]) (wr := [(ra 13, .inl (kI, 700, .inl q_tape))]) hP hD hS hA [0] [1] rfl rfl (by decide +kernel)
  refine va_calli (va_runV (As := [.int 1, .int 60]) (rest := []) ⟨hx, hb, hml, hown, hts⟩ (s11_numberNow_1_60 l dC dI kB kI kJ kZ kC kS s.heap.size m0 ra x0 tT nN sS (hX) (hRr)) (cwV 2 hts gX11_readNumber_X11_numberNow rfl rfl rfl (by decide +kernel) ⟨Nat.le_of_ble_eq_true rfl, Nat.le_of_ble_eq_true rfl⟩) ⟨fun a U g mk q => by obtain ⟨q0, q1, qP, qE, qD⟩ := q; exact ⟨q0, q1, qP, kE_call qE, qD⟩, va_recv hK hP (ci := 11) (q0 := 0) rfl rfl, fun U hU hW => ⟨rfl, by rw [hU], by rw [hU]; exact hPc, kE_warm hW hE, hDc.weaken (fun _ _ _ _ => trivial)⟩⟩ rfl rfl hl.1 rfl (lv_room (Nat.le_of_ble_eq_true rfl)) dX11_readNumber_3 ⟨Nat.le_of_ble_eq_true rfl, Nat.le_of_ble_eq_true rfl⟩) hS (fun q _ h => hFc q h) hFc (fun r1 u t H locs ht hvm w2 hB hz1 hk1 hS => ?_)
  obtain ⟨y3, hq4, hq5, hq6, hq7, hq8, hq9, hq10, hq11, hq12, hP1, hD1⟩ := hB
  try dsimp only at w2
  obtain ⟨hPa, hDa⟩ := hJn (w1 := [(m0, .inr (11, oX11 ra y3))]) hk1 ht hP1 hD1
  clear hP hD hPc hDc hFc hJn hP1 hD1 hk1
  have hP : va_P (dC, dI) vwCl [(ra 13, .inl (kI, 700, .inl q_tape)), (m0, .inr (11, oX11 ra y3))] H := hPa
  have hD : va_D A [(ra 13, .inl (kI, 700, .inl q_tape)), (m0, .inr (11, oX11 ra y3))] := hDa
  clear hPa hDa
  refine W.widen (k := 0) (n := 0) (Nat.le_of_ble_eq_true rfl) (Nat.le_of_ble_eq_true rfl) ?_
  have hv9 := w2.2
  refine lv_istore_n (lv' := [(3, .int r1), (0, .ref m0), (1, .int 1), (2, .int 60)]) hx hb dX11_readNumber_6 rfl hl (Nat.le_of_ble_eq_true rfl) rfl (fun ls hl => ?_)
  refine lv_aload_n hx hb dX11_readNumber_7 rfl (lv_at hl 1 rfl) ?_
  refine va_get (D := (dC, dI)) (ci := 11) (v := .int (y3 8)) (C := RX11) (T := TX11) (N := 61) hx hb hts hin11 hown hK hP 1 rfl rfl 22 (Nat.le_of_ble_eq_true rfl) hw_0 (fun _ h9 => h9) rfl dX11_readNumber_8 ?_
  refine lv_if_ne (tgt := 18) hx hb dX11_readNumber_11 rfl (fun c13 => ?_) (fun c13 => ?_)
  · have b14 : iv 1 5 (y3 8) := iv_neLo c13 (hq4 8 : iv 0 5 (y3 8)) ivk_0 (by decide) (by decide)
    refine lv_iload_n hx hb dX11_readNumber_18 rfl (lv_at hl 0 rfl) ?_
    have hPD9 := cl_s (wc := [(m0, .inr (11, oX11 ra y3)), (ra 13, .inl (kI, 700, .inl q_tape))]) hP hD [1, 0] rfl (by decide +kernel)
    have hP9 := hPD9.1
    have hD9 := hPD9.2
    exact W.iret (v := r1) hx hb hr (fun t ht hW => ⟨⟨r1, (), rfl, ⟨w2.1, hv9⟩, y3, hq4, (show (x0 2).toInt ≤ (y3 2).toInt from by omega), (show y3 3 = x0 3 from hq6), (show RRd tT nN y3 (nextT tT nN (numT tT 1 60 sS)) from rr_stepN hq7 c13), (show y3 1 = x0 1 from hq8), (show y3 10 = x0 10 from hq9), (show y3 21 = x0 21 from hq10), (show y3 25 = x0 25 from hq11), (show y3 23 = x0 23 from hq12), by rw [ht]; exact hP9, hD9⟩, hS.F ht⟩) hS.2.2 dX11_readNumber_19
  · have b15 : iv 0 0 (y3 8) := iv_eqL c13 ivk_0
    refine lv_aload_n hx hb dX11_readNumber_14 rfl (lv_at hl 1 rfl) ?_
    obtain ⟨hPc, hDc, hFc, hJn⟩ := cl_a (wc := [(m0, .inr (11, oX11 ra y3)), (ra 13, .inl (kI, 700, .inl q_tape))]) (wr := []) hP hD hS hA [1, 0] [] rfl rfl (by decide +kernel)
    refine va_callv (va_runV (As := []) (rest := []) ⟨hx, hb, hml, hown, hts⟩ (s11_stepOn l dC dI kB kI kJ kZ kC kS H.size m0 ra y3 q_tape tT nN (nextT tT nN (numT tT 1 60 sS)) (hq4) (hq_tape) (hq7.2) (stp_of hq7) (hTQ)) (cwV 0 hts gX11_readNumber_X11_stepOn rfl rfl rfl (by decide +kernel) ⟨Nat.le_of_ble_eq_true rfl, Nat.le_of_ble_eq_true rfl⟩) ⟨fun a U g mk q => by obtain ⟨q0, q1, qP, qE, qD⟩ := q; exact ⟨q0, q1, qP, kE_call qE, qD⟩, va_recv hK hP (ci := 11) (q0 := 1) rfl rfl, fun U hU hW => ⟨rfl, by rw [hU], by rw [hU]; exact hPc, kE_warm hW hE, hDc.weaken (fun _ _ _ _ => trivial)⟩⟩ rfl rfl hl.1 rfl (lv_room (Nat.le_of_ble_eq_true rfl)) dX11_readNumber_15 ⟨Nat.le_of_ble_eq_true rfl, Nat.le_of_ble_eq_true rfl⟩) hS (fun q _ h => hFc q h) hFc (fun u t H locs ht hvm w17 hB hz1 hk1 hS => ?_)
    obtain ⟨y18, hq19, hq20, hq21, hq22, hq23, hq24, hq25, hq26, hq27, hq28, hP1, hD1⟩ := hB
    try dsimp only at w17
    obtain ⟨hPa, hDa⟩ := hJn (w1 := [(m0, .inr (11, oX11 ra y18)), (ra 13, .inl (kI, 700, .inl q_tape))]) hk1 ht hP1 hD1
    clear hP hD hPc hDc hFc hJn hP1 hD1 hk1
    have hP : va_P (dC, dI) vwCl [(m0, .inr (11, oX11 ra y18)), (ra 13, .inl (kI, 700, .inl q_tape))] H := hPa
    have hD : va_D A [(m0, .inr (11, oX11 ra y18)), (ra 13, .inl (kI, 700, .inl q_tape))] := hDa
    clear hPa hDa
    refine W.widen (k := 0) (n := 0) (Nat.le_of_ble_eq_true rfl) (Nat.le_of_ble_eq_true rfl) ?_
    refine lv_iload_n hx hb dX11_readNumber_18 rfl (lv_at hl 0 rfl) ?_
    have hP9 := hP
    have hD9 := hD
    exact W.iret (v := r1) hx hb hr (fun t ht hW => ⟨⟨r1, (), rfl, ⟨w2.1, hv9⟩, y18, hq19, (show (x0 2).toInt ≤ (y18 2).toInt from by omega), (show y18 3 = x0 3 from hq21.trans (hq6)), (show RRd tT nN y18 (nextT tT nN (numT tT 1 60 sS)) from hq23), (show y18 1 = x0 1 from hq24.trans (hq8)), (show y18 10 = x0 10 from hq25.trans (hq9)), (show y18 21 = x0 21 from hq26.trans (hq10)), (show y18 25 = x0 25 from hq27.trans (hq11)), (show y18 23 = x0 23 from hq28.trans (hq12)), by rw [ht]; exact hP9, hD9⟩, hS.F ht⟩) hS.2.2 dX11_readNumber_19
def rm_s11_readNumber_1_50 : Room := { frames := 2, cells := 0, slots := 0, locals := 43 }
set_option maxHeartbeats 4000000 in
set_option maxRecDepth 100000 in
theorem s11_readNumber_1_50 (l : Launch) (dC : Nat → ClassId) (dI : Nat → Nat → Nat) (kB kI kJ kZ kC kS : ClassId) (sz : Nat) (m0 : Nat) (ra : Nat → Nat) (x0 : Nat → Int32) (q_tape : Nat → Int32) (tT : Nat → Int32) (nN : Int32) (sS : StT) (hX : fI lX11 hX11 x0) (hq_tape : fI (fun _ => 0) (fun _ => 255) q_tape) (hRr : RRd tT nN x0 sS) (hTQ : tT = q_tape) : Met l yX11_readNumber wsX11_readNumber rm_s11_readNumber_1_50 (va_Pc [.ref m0, .int 1, .int 50] (fun U => U.heap.size = sz ∧ va_P (dC, dI) vwCl [(m0, .inr (11, oX11 ra x0)), (ra 13, .inl (kI, 700, .inl q_tape))] U.heap ∧ kE dC dI kB kI kJ kZ kC kS U ∧ va_D (fun _ => True) [(m0, .inr (11, oX11 ra x0)), (ra 13, .inl (kI, 700, .inl q_tape))])) (va_Qi (fun (r : Int32) (_ : Unit) => iv 1 50 r ∧ (okT (numT tT 1 50 sS) → r = valS tT sS)) (fun _ t => ∃ (x0' : Nat → Int32), fI lX11 hX11 x0' ∧ ((x0 2).toInt ≤ (x0' 2).toInt) ∧ (x0' 3 = x0 3) ∧ (RRd tT nN x0' (nextT tT nN (numT tT 1 50 sS))) ∧ (x0' 1 = x0 1) ∧ (x0' 10 = x0 10) ∧ (x0' 21 = x0 21) ∧ (x0' 25 = x0 25) ∧ (x0' 23 = x0 23) ∧ va_P (dC, dI) vwCl [(m0, .inr (11, oX11 ra x0')), (ra 13, .inl (kI, 700, .inl q_tape))] t.heap ∧ va_D (va_A [(m0, .inr (11, oX11 ra x0)), (ra 13, .inl (kI, 700, .inl q_tape))] sz) [(m0, .inr (11, oX11 ra x0')), (ra 13, .inl (kI, 700, .inl q_tape))]) (va_A [(m0, .inr (11, oX11 ra x0)), (ra 13, .inl (kI, 700, .inl q_tape))] sz)) 0 0 (va_A [(m0, .inr (11, oX11 ra x0)), (ra 13, .inl (kI, 700, .inl q_tape))] sz) := by
  refine Met.ofW (cc := cX11_readNumber) (maxL := 4) (ret := (some .int)) (by decide) rfl ?_
  intro p e s m args0 below meth c s₁ B hml hv
  obtain ⟨hargs, hsz, hP, hE, hD0⟩ := hv
  have hx := B.exec
  have hb := B.bytes
  have hr := B.returns
  have hts := atoms_spec (ws := wsX11_readNumber) B.pre
  have hown : s.vm.findClass RX11 = some m.cls := findClass_of_methodNamed B.named
  have hlocks := B.notSynchronized
  have hK := hE.1
  have hin11 : ∀ w ∈ wsX110, w ∈ wsX11_readNumber := fun _ h9 => List.mem_cons_of_mem _ (List.mem_append_right _ h9)
  have hw_0 := hts (.fieldLink RX11 184 "PathProberModel" "bad" "I") (List.mem_of_getElem? (i := 1) rfl)
  subst hsz
  have hD := hD0.self (sz := s.heap.size)
  generalize hAe : va_A [(m0, .inr (11, oX11 ra x0)), (ra 13, .inl (kI, 700, .inl q_tape))] s.heap.size = A at hD ⊢
  have hA : ∀ q : Nat, s.heap.size ≤ q → A q := fun q h => by rw [← hAe]; exact Or.inr h
  have hS : va_S A s.heap s.heap [] := va_S.rf
  have hP : va_P (dC, dI) vwCl [(m0, .inr (11, oX11 ra x0)), (ra 13, .inl (kI, 700, .inl q_tape))] s.heap := hP
  have hl := lv_entry ([.ref m0, .int 1, .int 50]) (n := 4) (Nat.le_of_ble_eq_true rfl)
  have hla : entryFrame m args0 4 = entryFrame m ([.ref m0, .int 1, .int 50] : List Value).toArray 4 := by rw [hargs]
  rw [hla, lg_entry_eq]
  generalize (lg_sl ([.ref m0, .int 1, .int 50]) ++ List.replicate (4 - (lg_sl ([.ref m0, .int 1, .int 50])).length) Slot.unset).toArray = ls at hl ⊢
  have hl : lv_has ls 4 [(0, .ref m0), (1, .int 1), (2, .int 50)] := hl
  refine lv_aload_n hx hb dX11_readNumber_0 rfl (lv_at hl 0 rfl) ?_
  refine lv_iload_n hx hb dX11_readNumber_1 rfl (lv_at hl 1 rfl) ?_
  refine lv_iload_n hx hb dX11_readNumber_2 rfl (lv_at hl 2 rfl) ?_
  obtain ⟨hPc, hDc, hFc, hJn⟩ := cl_a (wc := [(m0, .inr (11, oX11 ra x0))]) (wr := [(ra 13, .inl (kI, 700, .inl q_tape))]) hP hD hS hA [0] [1] rfl rfl (by decide +kernel)
  refine va_calli (va_runV (As := [.int 1, .int 50]) (rest := []) ⟨hx, hb, hml, hown, hts⟩ (s11_numberNow_1_50 l dC dI kB kI kJ kZ kC kS s.heap.size m0 ra x0 tT nN sS (hX) (hRr)) (cwV 2 hts gX11_readNumber_X11_numberNow rfl rfl rfl (by decide +kernel) ⟨Nat.le_of_ble_eq_true rfl, Nat.le_of_ble_eq_true rfl⟩) ⟨fun a U g mk q => by obtain ⟨q0, q1, qP, qE, qD⟩ := q; exact ⟨q0, q1, qP, kE_call qE, qD⟩, va_recv hK hP (ci := 11) (q0 := 0) rfl rfl, fun U hU hW => ⟨rfl, by rw [hU], by rw [hU]; exact hPc, kE_warm hW hE, hDc.weaken (fun _ _ _ _ => trivial)⟩⟩ rfl rfl hl.1 rfl (lv_room (Nat.le_of_ble_eq_true rfl)) dX11_readNumber_3 ⟨Nat.le_of_ble_eq_true rfl, Nat.le_of_ble_eq_true rfl⟩) hS (fun q _ h => hFc q h) hFc (fun r1 u t H locs ht hvm w2 hB hz1 hk1 hS => ?_)
  obtain ⟨y3, hq4, hq5, hq6, hq7, hq8, hq9, hq10, hq11, hq12, hP1, hD1⟩ := hB
  try dsimp only at w2
  obtain ⟨hPa, hDa⟩ := hJn (w1 := [(m0, .inr (11, oX11 ra y3))]) hk1 ht hP1 hD1
  clear hP hD hPc hDc hFc hJn hP1 hD1 hk1
  have hP : va_P (dC, dI) vwCl [(ra 13, .inl (kI, 700, .inl q_tape)), (m0, .inr (11, oX11 ra y3))] H := hPa
  have hD : va_D A [(ra 13, .inl (kI, 700, .inl q_tape)), (m0, .inr (11, oX11 ra y3))] := hDa
  clear hPa hDa
  refine W.widen (k := 0) (n := 0) (Nat.le_of_ble_eq_true rfl) (Nat.le_of_ble_eq_true rfl) ?_
  have hv9 := w2.2
  refine lv_istore_n (lv' := [(3, .int r1), (0, .ref m0), (1, .int 1), (2, .int 50)]) hx hb dX11_readNumber_6 rfl hl (Nat.le_of_ble_eq_true rfl) rfl (fun ls hl => ?_)
  refine lv_aload_n hx hb dX11_readNumber_7 rfl (lv_at hl 1 rfl) ?_
  refine va_get (D := (dC, dI)) (ci := 11) (v := .int (y3 8)) (C := RX11) (T := TX11) (N := 61) hx hb hts hin11 hown hK hP 1 rfl rfl 22 (Nat.le_of_ble_eq_true rfl) hw_0 (fun _ h9 => h9) rfl dX11_readNumber_8 ?_
  refine lv_if_ne (tgt := 18) hx hb dX11_readNumber_11 rfl (fun c13 => ?_) (fun c13 => ?_)
  · have b14 : iv 1 5 (y3 8) := iv_neLo c13 (hq4 8 : iv 0 5 (y3 8)) ivk_0 (by decide) (by decide)
    refine lv_iload_n hx hb dX11_readNumber_18 rfl (lv_at hl 0 rfl) ?_
    have hPD9 := cl_s (wc := [(m0, .inr (11, oX11 ra y3)), (ra 13, .inl (kI, 700, .inl q_tape))]) hP hD [1, 0] rfl (by decide +kernel)
    have hP9 := hPD9.1
    have hD9 := hPD9.2
    exact W.iret (v := r1) hx hb hr (fun t ht hW => ⟨⟨r1, (), rfl, ⟨w2.1, hv9⟩, y3, hq4, (show (x0 2).toInt ≤ (y3 2).toInt from by omega), (show y3 3 = x0 3 from hq6), (show RRd tT nN y3 (nextT tT nN (numT tT 1 50 sS)) from rr_stepN hq7 c13), (show y3 1 = x0 1 from hq8), (show y3 10 = x0 10 from hq9), (show y3 21 = x0 21 from hq10), (show y3 25 = x0 25 from hq11), (show y3 23 = x0 23 from hq12), by rw [ht]; exact hP9, hD9⟩, hS.F ht⟩) hS.2.2 dX11_readNumber_19
  · have b15 : iv 0 0 (y3 8) := iv_eqL c13 ivk_0
    refine lv_aload_n hx hb dX11_readNumber_14 rfl (lv_at hl 1 rfl) ?_
    obtain ⟨hPc, hDc, hFc, hJn⟩ := cl_a (wc := [(m0, .inr (11, oX11 ra y3)), (ra 13, .inl (kI, 700, .inl q_tape))]) (wr := []) hP hD hS hA [1, 0] [] rfl rfl (by decide +kernel)
    refine va_callv (va_runV (As := []) (rest := []) ⟨hx, hb, hml, hown, hts⟩ (s11_stepOn l dC dI kB kI kJ kZ kC kS H.size m0 ra y3 q_tape tT nN (nextT tT nN (numT tT 1 50 sS)) (hq4) (hq_tape) (hq7.2) (stp_of hq7) (hTQ)) (cwV 0 hts gX11_readNumber_X11_stepOn rfl rfl rfl (by decide +kernel) ⟨Nat.le_of_ble_eq_true rfl, Nat.le_of_ble_eq_true rfl⟩) ⟨fun a U g mk q => by obtain ⟨q0, q1, qP, qE, qD⟩ := q; exact ⟨q0, q1, qP, kE_call qE, qD⟩, va_recv hK hP (ci := 11) (q0 := 1) rfl rfl, fun U hU hW => ⟨rfl, by rw [hU], by rw [hU]; exact hPc, kE_warm hW hE, hDc.weaken (fun _ _ _ _ => trivial)⟩⟩ rfl rfl hl.1 rfl (lv_room (Nat.le_of_ble_eq_true rfl)) dX11_readNumber_15 ⟨Nat.le_of_ble_eq_true rfl, Nat.le_of_ble_eq_true rfl⟩) hS (fun q _ h => hFc q h) hFc (fun u t H locs ht hvm w17 hB hz1 hk1 hS => ?_)
    obtain ⟨y18, hq19, hq20, hq21, hq22, hq23, hq24, hq25, hq26, hq27, hq28, hP1, hD1⟩ := hB
    try dsimp only at w17
    obtain ⟨hPa, hDa⟩ := hJn (w1 := [(m0, .inr (11, oX11 ra y18)), (ra 13, .inl (kI, 700, .inl q_tape))]) hk1 ht hP1 hD1
    clear hP hD hPc hDc hFc hJn hP1 hD1 hk1
    have hP : va_P (dC, dI) vwCl [(m0, .inr (11, oX11 ra y18)), (ra 13, .inl (kI, 700, .inl q_tape))] H := hPa
    have hD : va_D A [(m0, .inr (11, oX11 ra y18)), (ra 13, .inl (kI, 700, .inl q_tape))] := hDa
    clear hPa hDa
    refine W.widen (k := 0) (n := 0) (Nat.le_of_ble_eq_true rfl) (Nat.le_of_ble_eq_true rfl) ?_
    refine lv_iload_n hx hb dX11_readNumber_18 rfl (lv_at hl 0 rfl) ?_
    have hP9 := hP
    have hD9 := hD
    exact W.iret (v := r1) hx hb hr (fun t ht hW => ⟨⟨r1, (), rfl, ⟨w2.1, hv9⟩, y18, hq19, (show (x0 2).toInt ≤ (y18 2).toInt from by omega), (show y18 3 = x0 3 from hq21.trans (hq6)), (show RRd tT nN y18 (nextT tT nN (numT tT 1 50 sS)) from hq23), (show y18 1 = x0 1 from hq24.trans (hq8)), (show y18 10 = x0 10 from hq25.trans (hq9)), (show y18 21 = x0 21 from hq26.trans (hq10)), (show y18 25 = x0 25 from hq27.trans (hq11)), (show y18 23 = x0 23 from hq28.trans (hq12)), by rw [ht]; exact hP9, hD9⟩, hS.F ht⟩) hS.2.2 dX11_readNumber_19
def rm_s11_routerNow : Room := { frames := 2, cells := 0, slots := 0, locals := 43 }
set_option maxHeartbeats 4000000 in
set_option maxRecDepth 100000 in
theorem s11_routerNow (l : Launch) (dC : Nat → ClassId) (dI : Nat → Nat → Nat) (kB kI kJ kZ kC kS : ClassId) (sz : Nat) (m0 : Nat) (ra : Nat → Nat) (x0 : Nat → Int32) (q_told : Nat → Int32) (tT : Nat → Int32) (nN : Int32) (sS : StT) (hX : fI lX11 hX11 x0) (hq_told : fI lTold hTold q_told) (hRr : RRd tT nN x0 sS) : Met l yX11_routerNow wsX11_routerNow rm_s11_routerNow (va_Pc [.ref m0] (fun U => U.heap.size = sz ∧ va_P (dC, dI) vwCl [(m0, .inr (11, oX11 ra x0)), (ra 2, .inl (kI, 8, .inl q_told))] U.heap ∧ kE dC dI kB kI kJ kZ kC kS U ∧ va_D (fun _ => True) [(m0, .inr (11, oX11 ra x0)), (ra 2, .inl (kI, 8, .inl q_told))])) (va_Qi (fun (r : Int32) (_ : Unit) => iv 0 11 r ∧ (okT (rouT tT (q_told 4) sS) → r = valS tT sS)) (fun _ t => ∃ (x0' : Nat → Int32), fI lX11 hX11 x0' ∧ ((x0' 2).toInt = (x0 2).toInt) ∧ (x0' 3 = x0 3) ∧ (RRd tT nN x0' (rouT tT (q_told 4) sS)) ∧ (x0' 1 = x0 1) ∧ (x0' 10 = x0 10) ∧ (x0' 21 = x0 21) ∧ (x0' 25 = x0 25) ∧ (x0' 23 = x0 23) ∧ va_P (dC, dI) vwCl [(m0, .inr (11, oX11 ra x0')), (ra 2, .inl (kI, 8, .inl q_told))] t.heap ∧ va_D (va_A [(m0, .inr (11, oX11 ra x0)), (ra 2, .inl (kI, 8, .inl q_told))] sz) [(m0, .inr (11, oX11 ra x0')), (ra 2, .inl (kI, 8, .inl q_told))]) (va_A [(m0, .inr (11, oX11 ra x0)), (ra 2, .inl (kI, 8, .inl q_told))] sz)) 0 0 (va_A [(m0, .inr (11, oX11 ra x0)), (ra 2, .inl (kI, 8, .inl q_told))] sz) := by
  refine Met.ofW (cc := cX11_routerNow) (maxL := 2) (ret := (some .int)) (by decide) rfl ?_
  intro p e s m args0 below meth c s₁ B hml hv
  obtain ⟨hargs, hsz, hP, hE, hD0⟩ := hv
  have hx := B.exec
  have hb := B.bytes
  have hr := B.returns
  have hts := atoms_spec (ws := wsX11_routerNow) B.pre
  have hown : s.vm.findClass RX11 = some m.cls := findClass_of_methodNamed B.named
  have hlocks := B.notSynchronized
  have hK := hE.1
  have hin11 : ∀ w ∈ wsX110, w ∈ wsX11_routerNow := fun _ h9 => List.mem_cons_of_mem _ (List.mem_append_right _ h9)
  have hw_0 := hts (.fieldLink RX11 184 "PathProberModel" "bad" "I") (List.mem_of_getElem? (i := 1) rfl)
  have hw_1 := hts (.fieldLink RX11 34 "PathProberModel" "told" "[I") (List.mem_of_getElem? (i := 2) rfl)
  subst hsz
  have hD := hD0.self (sz := s.heap.size)
  generalize hAe : va_A [(m0, .inr (11, oX11 ra x0)), (ra 2, .inl (kI, 8, .inl q_told))] s.heap.size = A at hD ⊢
  have hA : ∀ q : Nat, s.heap.size ≤ q → A q := fun q h => by rw [← hAe]; exact Or.inr h
  have hS : va_S A s.heap s.heap [] := va_S.rf
  have hP : va_P (dC, dI) vwCl [(m0, .inr (11, oX11 ra x0)), (ra 2, .inl (kI, 8, .inl q_told))] s.heap := hP
  have hl := lv_entry ([.ref m0]) (n := 2) (Nat.le_of_ble_eq_true rfl)
  have hla : entryFrame m args0 2 = entryFrame m ([.ref m0] : List Value).toArray 2 := by rw [hargs]
  rw [hla, lg_entry_eq]
  generalize (lg_sl ([.ref m0]) ++ List.replicate (2 - (lg_sl ([.ref m0])).length) Slot.unset).toArray = ls at hl ⊢
  have hl : lv_has ls 2 [(0, .ref m0)] := hl
  refine lv_aload_n hx hb dX11_routerNow_0 rfl (lv_at hl 0 rfl) ?_
  refine lv_iconst (v := 0) hx hb dX11_routerNow_1 ic_0 ?_
  refine lv_bipush (v := 11) hx hb dX11_routerNow_2 bp_11 ?_
  obtain ⟨hPc, hDc, hFc, hJn⟩ := cl_a (wc := [(m0, .inr (11, oX11 ra x0))]) (wr := [(ra 2, .inl (kI, 8, .inl q_told))]) hP hD hS hA [0] [1] rfl rfl (by decide +kernel)
  refine va_calli (va_runV (As := [.int 0, .int 11]) (rest := []) ⟨hx, hb, hml, hown, hts⟩ (s11_numberNow_0_11 l dC dI kB kI kJ kZ kC kS s.heap.size m0 ra x0 tT nN sS (hX) (hRr)) (cwV 2 hts gX11_routerNow_X11_numberNow rfl rfl rfl (by decide +kernel) ⟨Nat.le_of_ble_eq_true rfl, Nat.le_of_ble_eq_true rfl⟩) ⟨fun a U g mk q => by obtain ⟨q0, q1, qP, qE, qD⟩ := q; exact ⟨q0, q1, qP, kE_call qE, qD⟩, va_recv hK hP (ci := 11) (q0 := 0) rfl rfl, fun U hU hW => ⟨rfl, by rw [hU], by rw [hU]; exact hPc, kE_warm hW hE, hDc.weaken (fun _ _ _ _ => trivial)⟩⟩ rfl rfl hl.1 rfl (lv_room (Nat.le_of_ble_eq_true rfl)) dX11_routerNow_4 ⟨Nat.le_of_ble_eq_true rfl, Nat.le_of_ble_eq_true rfl⟩) hS (fun q _ h => hFc q h) hFc (fun r1 u t H locs ht hvm w2 hB hz1 hk1 hS => ?_)
  obtain ⟨y3, hq4, hq5, hq6, hq7, hq8, hq9, hq10, hq11, hq12, hP1, hD1⟩ := hB
  try dsimp only at w2
  obtain ⟨hPa, hDa⟩ := hJn (w1 := [(m0, .inr (11, oX11 ra y3))]) hk1 ht hP1 hD1
  clear hP hD hPc hDc hFc hJn hP1 hD1 hk1
  have hP : va_P (dC, dI) vwCl [(ra 2, .inl (kI, 8, .inl q_told)), (m0, .inr (11, oX11 ra y3))] H := hPa
  have hD : va_D A [(ra 2, .inl (kI, 8, .inl q_told)), (m0, .inr (11, oX11 ra y3))] := hDa
  clear hPa hDa
  refine W.widen (k := 0) (n := 0) (Nat.le_of_ble_eq_true rfl) (Nat.le_of_ble_eq_true rfl) ?_
  have hv9 := w2.2
  refine lv_istore_n (lv' := [(1, .int r1), (0, .ref m0)]) hx hb dX11_routerNow_7 rfl hl (Nat.le_of_ble_eq_true rfl) rfl (fun ls hl => ?_)
  refine lv_aload_n hx hb dX11_routerNow_8 rfl (lv_at hl 1 rfl) ?_
  refine va_get (D := (dC, dI)) (ci := 11) (v := .int (y3 8)) (C := RX11) (T := TX11) (N := 61) hx hb hts hin11 hown hK hP 1 rfl rfl 22 (Nat.le_of_ble_eq_true rfl) hw_0 (fun _ h9 => h9) rfl dX11_routerNow_9 ?_
  refine lv_if_ne (tgt := 30) hx hb dX11_routerNow_12 rfl (fun c13 => ?_) (fun c13 => ?_)
  · have b14 : iv 1 5 (y3 8) := iv_neLo c13 (hq4 8 : iv 0 5 (y3 8)) ivk_0 (by decide) (by decide)
    refine lv_iload_n hx hb dX11_routerNow_30 rfl (lv_at hl 0 rfl) ?_
    have hPD9 := cl_s (wc := [(m0, .inr (11, oX11 ra y3)), (ra 2, .inl (kI, 8, .inl q_told))]) hP hD [1, 0] rfl (by decide +kernel)
    have hP9 := hPD9.1
    have hD9 := hPD9.2
    exact W.iret (v := r1) hx hb hr (fun t ht hW => ⟨⟨r1, (), rfl, ⟨w2.1, fun hk => hv9 (ok_rou hk)⟩, y3, hq4, (show (y3 2).toInt = (x0 2).toInt from by omega), (show y3 3 = x0 3 from hq6), (show RRd tT nN y3 (rouT tT (q_told 4) sS) from (rq_n hq7 hv9 (Or.inl c13)) ▸ hq7), (show y3 1 = x0 1 from hq8), (show y3 10 = x0 10 from hq9), (show y3 21 = x0 21 from hq10), (show y3 25 = x0 25 from hq11), (show y3 23 = x0 23 from hq12), by rw [ht]; exact hP9, hD9⟩, hS.F ht⟩) hS.2.2 dX11_routerNow_31
  · have b15 : iv 0 0 (y3 8) := iv_eqL c13 ivk_0
    refine lv_iload_n hx hb dX11_routerNow_15 rfl (lv_at hl 0 rfl) ?_
    refine lv_aload_n hx hb dX11_routerNow_16 rfl (lv_at hl 1 rfl) ?_
    refine va_get (D := (dC, dI)) (ci := 11) (v := .ref (ra 2)) (C := RX11) (T := TX11) (N := 61) hx hb hts hin11 hown hK hP 1 rfl rfl 3 (Nat.le_of_ble_eq_true rfl) hw_1 (fun _ h9 => h9) rfl dX11_routerNow_17 ?_
    refine lv_iconst (v := 4) hx hb dX11_routerNow_20 ic_4 ?_
    refine va_iald hx hb hK hP 0 1 rfl rfl (vp_in_nI (n := 4) (by decide) (by decide)) dX11_routerNow_21 ?_
    refine W.eq (g2 := F0 m 22 ls [.int (q_told 4), .int r1]) rfl ?_
    refine lv_icmp_lt (tgt := 30) hx hb dX11_routerNow_22 rfl (fun c16 => ?_) (fun c16 => ?_)
    · have b17 : iv 1 12 (q_told 4) := iv_ltR c16 w2.1 (hq_told 4 : iv 0 12 (q_told 4)) (by decide) (by decide)
      refine lv_iload_n hx hb dX11_routerNow_30 rfl (lv_at hl 0 rfl) ?_
      have hPD9 := cl_s (wc := [(m0, .inr (11, oX11 ra y3)), (ra 2, .inl (kI, 8, .inl q_told))]) hP hD [1, 0] rfl (by decide +kernel)
      have hP9 := hPD9.1
      have hD9 := hPD9.2
      exact W.iret (v := r1) hx hb hr (fun t ht hW => ⟨⟨r1, (), rfl, ⟨w2.1, fun hk => hv9 (ok_rou hk)⟩, y3, hq4, (show (y3 2).toInt = (x0 2).toInt from by omega), (show y3 3 = x0 3 from hq6), (show RRd tT nN y3 (rouT tT (q_told 4) sS) from (rq_n hq7 hv9 (Or.inr c16)) ▸ hq7), (show y3 1 = x0 1 from hq8), (show y3 10 = x0 10 from hq9), (show y3 21 = x0 21 from hq10), (show y3 25 = x0 25 from hq11), (show y3 23 = x0 23 from hq12), by rw [ht]; exact hP9, hD9⟩, hS.F ht⟩) hS.2.2 dX11_routerNow_31
    · have b18 : iv 0 11 (q_told 4) := iv_leL (Int32.not_lt.mp c16) (hq_told 4 : iv 0 12 (q_told 4)) w2.1 (by decide) (by decide)
      refine lv_aload_n hx hb dX11_routerNow_25 rfl (lv_at hl 1 rfl) ?_
      refine lv_iconst (v := 3) hx hb dX11_routerNow_26 ic_3 ?_
      obtain ⟨hPc, hDc, hFc, hJn⟩ := cl_a (wc := [(m0, .inr (11, oX11 ra y3))]) (wr := [(ra 2, .inl (kI, 8, .inl q_told))]) hP hD hS hA [1] [0] rfl rfl (by decide +kernel)
      refine va_callv (va_runV (As := [.int 3]) (rest := []) ⟨hx, hb, hml, hown, hts⟩ (s11_wrong l dC dI kB kI kJ kZ kC kS H.size m0 ra y3 3 tT nN (numT tT 0 11 sS) (hq4) ((iv_w ivk_3 (by decide) (by decide))) (hq7)) (cwV 1 hts gX11_routerNow_X11_wrong rfl rfl rfl (by decide +kernel) ⟨Nat.le_of_ble_eq_true rfl, Nat.le_of_ble_eq_true rfl⟩) ⟨fun a U g mk q => by obtain ⟨q0, q1, qP, qE, qD⟩ := q; exact ⟨q0, q1, qP, kE_call qE, qD⟩, va_recv hK hP (ci := 11) (q0 := 1) rfl rfl, fun U hU hW => ⟨rfl, by rw [hU], by rw [hU]; exact hPc, kE_warm hW hE, hDc.weaken (fun _ _ _ _ => trivial)⟩⟩ rfl rfl hl.1 rfl (lv_room (Nat.le_of_ble_eq_true rfl)) dX11_routerNow_27 ⟨Nat.le_of_ble_eq_true rfl, Nat.le_of_ble_eq_true rfl⟩) hS (fun q _ h => hFc q h) hFc (fun u t H locs ht hvm w20 hB hz1 hk1 hS => ?_)
      obtain ⟨y21, hq22, hq23, hq24, hq25, hq26, hq27, hq28, hq29, hq30, hq31, hP1, hD1⟩ := hB
      try dsimp only at w20
      obtain ⟨hPa, hDa⟩ := hJn (w1 := [(m0, .inr (11, oX11 ra y21))]) hk1 ht hP1 hD1
      clear hP hD hPc hDc hFc hJn hP1 hD1 hk1
      have hP : va_P (dC, dI) vwCl [(ra 2, .inl (kI, 8, .inl q_told)), (m0, .inr (11, oX11 ra y21))] H := hPa
      have hD : va_D A [(ra 2, .inl (kI, 8, .inl q_told)), (m0, .inr (11, oX11 ra y21))] := hDa
      clear hPa hDa
      refine W.widen (k := 0) (n := 0) (Nat.le_of_ble_eq_true rfl) (Nat.le_of_ble_eq_true rfl) ?_
      refine lv_iload_n hx hb dX11_routerNow_30 rfl (lv_at hl 0 rfl) ?_
      have hPD9 := cl_s (wc := [(m0, .inr (11, oX11 ra y21)), (ra 2, .inl (kI, 8, .inl q_told))]) hP hD [1, 0] rfl (by decide +kernel)
      have hP9 := hPD9.1
      have hD9 := hPD9.2
      exact W.iret (v := r1) hx hb hr (fun t ht hW => ⟨⟨r1, (), rfl, ⟨w2.1, fun hk => hv9 (ok_rou hk)⟩, y21, hq22, (show (y21 2).toInt = (x0 2).toInt from by omega), (show y21 3 = x0 3 from hq25.trans (hq6)), (show RRd tT nN y21 (rouT tT (q_told 4) sS) from (rq_f hq7 c13 hv9 (Int32.not_lt.mp c16)) ▸ hq26), (show y21 1 = x0 1 from hq27.trans (hq8)), (show y21 10 = x0 10 from hq28.trans (hq9)), (show y21 21 = x0 21 from hq29.trans (hq10)), (show y21 25 = x0 25 from hq30.trans (hq11)), (show y21 23 = x0 23 from hq31.trans (hq12)), by rw [ht]; exact hP9, hD9⟩, hS.F ht⟩) hS.2.2 dX11_routerNow_31
def rm_s11_readRouter : Room := { frames := 6, cells := 0, slots := 0, locals := 130 }
set_option maxHeartbeats 4000000 in
set_option maxRecDepth 100000 in
theorem s11_readRouter (l : Launch) (dC : Nat → ClassId) (dI : Nat → Nat → Nat) (kB kI kJ kZ kC kS : ClassId) (sz : Nat) (adK : Nat → Nat) (adV : Nat → Nat) (m0 : Nat) (ra : Nat → Nat) (x0 : Nat → Int32) (q_told : Nat → Int32) (q_kind : Nat → Int32) (q_salt : Nat → Int32) (q_pace : Nat → Int32) (q_mute : Nat → Int32) (q_late : Nat → Int32) (q_from : Nat → Int32) (q_to : Nat → Int32) (q_tape : Nat → Int32) (q_words : Nat → Option Nat) (q_kinds : Nat → Option Nat) (tT : Nat → Int32) (nN : Int32) (sS : StT) (hX : fI lX11 hX11 x0) (hq_told : fI lTold hTold q_told) (hq_salt : fI (fun _ => 0) (fun _ => 15) q_salt) (hq_tape : fI (fun _ => 0) (fun _ => 255) q_tape) (hLT : ∀ j : Nat, (j : Int) < (q_told 1).toInt → (q_from j).toInt < (q_to j).toInt) (hLD : ∀ j : Nat, (j : Int) < (q_told 5).toInt → (q_from (20 + j)).toInt < (q_to (20 + j)).toInt) (hwo : ∀ k, k < 4 → q_words k = some (adK (0 + k))) (hki : ∀ k, k < 4 → q_kinds k = some (adK (4 + k))) (hRr : RRd tT nN x0 sS) (hTQ : tT = q_tape) : Met l yX11_readRouter wsX11_readRouter rm_s11_readRouter (va_Pc [.ref m0] (fun U => U.heap.size = sz ∧ va_P (dC, dI) vwCl [(m0, .inr (11, oX11 ra x0)), (ra 2, .inl (kI, 8, .inl q_told)), (ra 3, .inl (kI, 24, .inl q_kind)), (ra 4, .inl (kI, 24, .inl q_salt)), (ra 5, .inl (kI, 24, .inl q_pace)), (ra 6, .inl (kI, 24, .inl q_mute)), (ra 7, .inl (kI, 24, .inl q_late)), (ra 13, .inl (kI, 700, .inl q_tape)), (ra 1, .inl (kS, 4, .inr (.inr (.inr (.inr q_kinds)))))] U.heap ∧ kE dC dI kB kI kJ kZ kC kS U ∧ va_D (fun _ => True) [(m0, .inr (11, oX11 ra x0)), (ra 2, .inl (kI, 8, .inl q_told)), (ra 3, .inl (kI, 24, .inl q_kind)), (ra 4, .inl (kI, 24, .inl q_salt)), (ra 5, .inl (kI, 24, .inl q_pace)), (ra 6, .inl (kI, 24, .inl q_mute)), (ra 7, .inl (kI, 24, .inl q_late)), (ra 13, .inl (kI, 700, .inl q_tape)), (ra 1, .inl (kS, 4, .inr (.inr (.inr (.inr q_kinds)))))] ∧ kL adK adV (va_A [(m0, .inr (11, oX11 ra x0)), (ra 2, .inl (kI, 8, .inl q_told)), (ra 3, .inl (kI, 24, .inl q_kind)), (ra 4, .inl (kI, 24, .inl q_salt)), (ra 5, .inl (kI, 24, .inl q_pace)), (ra 6, .inl (kI, 24, .inl q_mute)), (ra 7, .inl (kI, 24, .inl q_late)), (ra 13, .inl (kI, 700, .inl q_tape)), (ra 1, .inl (kS, 4, .inr (.inr (.inr (.inr q_kinds)))))] sz) U)) (va_Qv (fun (_ : Unit) => True) (fun _ t => ∃ (x0' : Nat → Int32) (q_told' : Nat → Int32) (q_kind' : Nat → Int32) (q_salt' : Nat → Int32) (q_pace' : Nat → Int32) (q_mute' : Nat → Int32) (q_late' : Nat → Int32), fI lX11 hX11 x0' ∧ fI lTold hTold q_told' ∧ fI (fun _ => 0) (fun _ => 15) q_salt' ∧ ((x0 2).toInt ≤ (x0' 2).toInt) ∧ (x0' 3 = x0 3) ∧ (∀ j : Nat, (j : Int) < (q_told' 1).toInt → (q_from j).toInt < (q_to j).toInt) ∧ (∀ j : Nat, (j : Int) < (q_told' 5).toInt → (q_from (20 + j)).toInt < (q_to (20 + j)).toInt) ∧ (RRd tT nN x0' (rtrS tT nN sS (q_told 4))) ∧ (x0' 8 = 0 → q_told' = upd q_told 4 (q_told 4 + 1) ∧ q_kind' = upd q_kind ((12 + (q_told 4)).toNatClampNeg) (kndS tT (rtr1 tT nN sS)) ∧ q_salt' = upd q_salt ((12 + (q_told 4)).toNatClampNeg) (valS tT (rtr2 tT nN sS)) ∧ q_pace' = upd q_pace ((12 + (q_told 4)).toNatClampNeg) (valS tT (rtr3 tT nN sS)) ∧ q_mute' = upd q_mute ((12 + (q_told 4)).toNatClampNeg) (wS tT 8 (rtr4 tT nN sS)) ∧ q_late' = upd q_late ((12 + (q_told 4)).toNatClampNeg) (wS tT 9 (rtr4 tT nN sS))) ∧ (LowT q_told q_from q_to q_told' q_from q_to) ∧ (x0' 1 = x0 1) ∧ (x0' 10 = x0 10) ∧ (x0' 21 = x0 21) ∧ (x0' 25 = x0 25) ∧ (x0' 23 = x0 23) ∧ va_P (dC, dI) vwCl [(m0, .inr (11, oX11 ra x0')), (ra 2, .inl (kI, 8, .inl q_told')), (ra 3, .inl (kI, 24, .inl q_kind')), (ra 4, .inl (kI, 24, .inl q_salt')), (ra 5, .inl (kI, 24, .inl q_pace')), (ra 6, .inl (kI, 24, .inl q_mute')), (ra 7, .inl (kI, 24, .inl q_late')), (ra 13, .inl (kI, 700, .inl q_tape)), (ra 1, .inl (kS, 4, .inr (.inr (.inr (.inr q_kinds)))))] t.heap ∧ va_D (va_A [(m0, .inr (11, oX11 ra x0)), (ra 2, .inl (kI, 8, .inl q_told)), (ra 3, .inl (kI, 24, .inl q_kind)), (ra 4, .inl (kI, 24, .inl q_salt)), (ra 5, .inl (kI, 24, .inl q_pace)), (ra 6, .inl (kI, 24, .inl q_mute)), (ra 7, .inl (kI, 24, .inl q_late)), (ra 13, .inl (kI, 700, .inl q_tape)), (ra 1, .inl (kS, 4, .inr (.inr (.inr (.inr q_kinds)))))] sz) [(m0, .inr (11, oX11 ra x0')), (ra 2, .inl (kI, 8, .inl q_told')), (ra 3, .inl (kI, 24, .inl q_kind')), (ra 4, .inl (kI, 24, .inl q_salt')), (ra 5, .inl (kI, 24, .inl q_pace')), (ra 6, .inl (kI, 24, .inl q_mute')), (ra 7, .inl (kI, 24, .inl q_late')), (ra 13, .inl (kI, 700, .inl q_tape)), (ra 1, .inl (kS, 4, .inr (.inr (.inr (.inr q_kinds)))))]) (va_A [(m0, .inr (11, oX11 ra x0)), (ra 2, .inl (kI, 8, .inl q_told)), (ra 3, .inl (kI, 24, .inl q_kind)), (ra 4, .inl (kI, 24, .inl q_salt)), (ra 5, .inl (kI, 24, .inl q_pace)), (ra 6, .inl (kI, 24, .inl q_mute)), (ra 7, .inl (kI, 24, .inl q_late)), (ra 13, .inl (kI, 700, .inl q_tape)), (ra 1, .inl (kS, 4, .inr (.inr (.inr (.inr q_kinds)))))] sz)) 0 0 (va_A [(m0, .inr (11, oX11 ra x0)), (ra 2, .inl (kI, 8, .inl q_told)), (ra 3, .inl (kI, 24, .inl q_kind)), (ra 4, .inl (kI, 24, .inl q_salt)), (ra 5, .inl (kI, 24, .inl q_pace)), (ra 6, .inl (kI, 24, .inl q_mute)), (ra 7, .inl (kI, 24, .inl q_late)), (ra 13, .inl (kI, 700, .inl q_tape)), (ra 1, .inl (kS, 4, .inr (.inr (.inr (.inr q_kinds)))))] sz) := by
  refine Met.ofW (cc := cX11_readRouter) (maxL := 3) (ret := none) (by decide) rfl ?_
  intro p e s m args0 below meth c s₁ B hml hv
  obtain ⟨hargs, hsz, hP, hE, hD0, hKL⟩ := hv
  have hx := B.exec
  have hb := B.bytes
  have hr := B.returns
  have hts := atoms_spec (ws := wsX11_readRouter) B.pre
  have hown : s.vm.findClass RX11 = some m.cls := findClass_of_methodNamed B.named
  have hlocks := B.notSynchronized
  have hK := hE.1
  have hin11 : ∀ w ∈ wsX110, w ∈ wsX11_readRouter := fun _ h9 => List.mem_cons_of_mem _ (List.mem_append_right _ h9)
  have hw_0 := hts (.fieldLink RX11 34 "PathProberModel" "told" "[I") (List.mem_of_getElem? (i := 1) rfl)
  have hw_1 := hts (.fieldLink RX11 184 "PathProberModel" "bad" "I") (List.mem_of_getElem? (i := 2) rfl)
  have hw_2 := hts (.fieldLink RX11 31 "PathProberModel" "kinds" "[Ljava/lang/String;") (List.mem_of_getElem? (i := 3) rfl)
  have hw_3 := hts (.fieldLink RX11 38 "PathProberModel" "kind" "[I") (List.mem_of_getElem? (i := 4) rfl)
  have hw_4 := hts (.fieldLink RX11 41 "PathProberModel" "salt" "[I") (List.mem_of_getElem? (i := 5) rfl)
  have hw_5 := hts (.fieldLink RX11 44 "PathProberModel" "pace" "[I") (List.mem_of_getElem? (i := 6) rfl)
  have hw_6 := hts (.fieldLink RX11 47 "PathProberModel" "mute" "[I") (List.mem_of_getElem? (i := 7) rfl)
  have hw_7 := hts (.fieldLink RX11 50 "PathProberModel" "late" "[I") (List.mem_of_getElem? (i := 8) rfl)
  subst hsz
  have hD := hD0.self (sz := s.heap.size)
  generalize hAe : va_A [(m0, .inr (11, oX11 ra x0)), (ra 2, .inl (kI, 8, .inl q_told)), (ra 3, .inl (kI, 24, .inl q_kind)), (ra 4, .inl (kI, 24, .inl q_salt)), (ra 5, .inl (kI, 24, .inl q_pace)), (ra 6, .inl (kI, 24, .inl q_mute)), (ra 7, .inl (kI, 24, .inl q_late)), (ra 13, .inl (kI, 700, .inl q_tape)), (ra 1, .inl (kS, 4, .inr (.inr (.inr (.inr q_kinds)))))] s.heap.size = A at hD hKL ⊢
  have hA : ∀ q : Nat, s.heap.size ≤ q → A q := fun q h => by rw [← hAe]; exact Or.inr h
  have hS : va_S A s.heap s.heap [] := va_S.rf
  have hP : va_P (dC, dI) vwCl [(m0, .inr (11, oX11 ra x0)), (ra 2, .inl (kI, 8, .inl q_told)), (ra 3, .inl (kI, 24, .inl q_kind)), (ra 4, .inl (kI, 24, .inl q_salt)), (ra 5, .inl (kI, 24, .inl q_pace)), (ra 6, .inl (kI, 24, .inl q_mute)), (ra 7, .inl (kI, 24, .inl q_late)), (ra 13, .inl (kI, 700, .inl q_tape)), (ra 1, .inl (kS, 4, .inr (.inr (.inr (.inr q_kinds)))))] s.heap := hP
  have hl := lv_entry ([.ref m0]) (n := 3) (Nat.le_of_ble_eq_true rfl)
  have hla : entryFrame m args0 3 = entryFrame m ([.ref m0] : List Value).toArray 3 := by rw [hargs]
  rw [hla, lg_entry_eq]
  generalize (lg_sl ([.ref m0]) ++ List.replicate (3 - (lg_sl ([.ref m0])).length) Slot.unset).toArray = ls at hl ⊢
  have hl : lv_has ls 3 [(0, .ref m0)] := hl
  refine lv_aload_n hx hb dX11_readRouter_0 rfl (lv_at hl 0 rfl) ?_
  refine va_get (D := (dC, dI)) (ci := 11) (v := .ref (ra 2)) (C := RX11) (T := TX11) (N := 61) hx hb hts hin11 hown hK hP 0 rfl rfl 3 (Nat.le_of_ble_eq_true rfl) hw_0 (fun _ h9 => h9) rfl dX11_readRouter_1 ?_
  refine lv_iconst (v := 4) hx hb dX11_readRouter_4 ic_4 ?_
  refine va_iald hx hb hK hP 1 1 rfl rfl (vp_in_nI (n := 4) (by decide) (by decide)) dX11_readRouter_5 ?_
  refine W.eq (g2 := F0 m 6 ls [.int (q_told 4)]) rfl ?_
  refine lv_bipush (v := 12) hx hb dX11_readRouter_6 bp_12 ?_
  refine lv_icmp_ne (tgt := 16) hx hb dX11_readRouter_8 rfl (fun c1 => ?_) (fun c1 => ?_)
  · have b2 : iv 0 11 (q_told 4) := iv_neHi c1 (hq_told 4 : iv 0 12 (q_told 4)) ivk_12 (by decide) (by decide)
    refine lv_aload_n hx hb dX11_readRouter_16 rfl (lv_at hl 0 rfl) ?_
    refine va_get (D := (dC, dI)) (ci := 11) (v := .int (x0 8)) (C := RX11) (T := TX11) (N := 61) hx hb hts hin11 hown hK hP 0 rfl rfl 22 (Nat.le_of_ble_eq_true rfl) hw_1 (fun _ h9 => h9) rfl dX11_readRouter_17 ?_
    refine lv_if_eq (tgt := 24) hx hb dX11_readRouter_20 rfl (fun c3 => ?_) (fun c3 => ?_)
    · have b4 : iv 0 0 (x0 8) := iv_eqL c3 ivk_0
      refine lv_aload_n hx hb dX11_readRouter_24 rfl (lv_at hl 0 rfl) ?_
      obtain ⟨hPc, hDc, hFc, hJn⟩ := cl_a (wc := [(m0, .inr (11, oX11 ra x0)), (ra 13, .inl (kI, 700, .inl q_tape))]) (wr := [(ra 2, .inl (kI, 8, .inl q_told)), (ra 3, .inl (kI, 24, .inl q_kind)), (ra 4, .inl (kI, 24, .inl q_salt)), (ra 5, .inl (kI, 24, .inl q_pace)), (ra 6, .inl (kI, 24, .inl q_mute)), (ra 7, .inl (kI, 24, .inl q_late)), (ra 1, .inl (kS, 4, .inr (.inr (.inr (.inr q_kinds)))))]) hP hD hS hA [0, 7] [1, 2, 3, 4, 5, 6, 8] rfl rfl (by decide +kernel)
      refine va_callv (va_runV (As := []) (rest := []) ⟨hx, hb, hml, hown, hts⟩ (s11_stepOn l dC dI kB kI kJ kZ kC kS s.heap.size m0 ra x0 q_tape tT nN (nextT tT nN sS) (hX) (hq_tape) (hRr.2) (stp_of hRr) (hTQ)) (cwV 0 hts gX11_readRouter_X11_stepOn rfl rfl rfl (by decide +kernel) ⟨Nat.le_of_ble_eq_true rfl, Nat.le_of_ble_eq_true rfl⟩) ⟨fun a U g mk q => by obtain ⟨q0, q1, qP, qE, qD⟩ := q; exact ⟨q0, q1, qP, kE_call qE, qD⟩, va_recv hK hP (ci := 11) (q0 := 0) rfl rfl, fun U hU hW => ⟨rfl, by rw [hU], by rw [hU]; exact hPc, kE_warm hW hE, hDc.weaken (fun _ _ _ _ => trivial)⟩⟩ rfl rfl hl.1 rfl (lv_room (Nat.le_of_ble_eq_true rfl)) dX11_readRouter_25 ⟨Nat.le_of_ble_eq_true rfl, Nat.le_of_ble_eq_true rfl⟩) hS (fun q _ h => hFc q h) hFc (fun u t H locs ht hvm w6 hB hz1 hk1 hS => ?_)
      obtain ⟨y7, hq8, hq9, hq10, hq11, hq12, hq13, hq14, hq15, hq16, hq17, hP1, hD1⟩ := hB
      try dsimp only at w6
      obtain ⟨hPa, hDa⟩ := hJn (w1 := [(m0, .inr (11, oX11 ra y7)), (ra 13, .inl (kI, 700, .inl q_tape))]) hk1 ht hP1 hD1
      clear hP hD hPc hDc hFc hJn hP1 hD1 hk1
      have hP : va_P (dC, dI) vwCl [(ra 2, .inl (kI, 8, .inl q_told)), (ra 3, .inl (kI, 24, .inl q_kind)), (ra 4, .inl (kI, 24, .inl q_salt)), (ra 5, .inl (kI, 24, .inl q_pace)), (ra 6, .inl (kI, 24, .inl q_mute)), (ra 7, .inl (kI, 24, .inl q_late)), (ra 1, .inl (kS, 4, .inr (.inr (.inr (.inr q_kinds))))), (m0, .inr (11, oX11 ra y7)), (ra 13, .inl (kI, 700, .inl q_tape))] H := hPa
      have hD : va_D A [(ra 2, .inl (kI, 8, .inl q_told)), (ra 3, .inl (kI, 24, .inl q_kind)), (ra 4, .inl (kI, 24, .inl q_salt)), (ra 5, .inl (kI, 24, .inl q_pace)), (ra 6, .inl (kI, 24, .inl q_mute)), (ra 7, .inl (kI, 24, .inl q_late)), (ra 1, .inl (kS, 4, .inr (.inr (.inr (.inr q_kinds))))), (m0, .inr (11, oX11 ra y7)), (ra 13, .inl (kI, 700, .inl q_tape))] := hDa
      clear hPa hDa
      refine W.widen (k := 0) (n := 0) (Nat.le_of_ble_eq_true rfl) (Nat.le_of_ble_eq_true rfl) ?_
      refine lv_bipush (v := 12) hx hb dX11_readRouter_28 bp_12 ?_
      refine lv_aload_n hx hb dX11_readRouter_30 rfl (lv_at hl 0 rfl) ?_
      refine va_get (D := (dC, dI)) (ci := 11) (v := .ref (ra 2)) (C := RX11) (T := TX11) (N := 61) hx hb hts hin11 hown hK hP 7 rfl rfl 3 (Nat.le_of_ble_eq_true rfl) hw_0 (fun _ h9 => h9) rfl dX11_readRouter_31 ?_
      refine lv_iconst (v := 4) hx hb dX11_readRouter_34 ic_4 ?_
      refine va_iald hx hb hK hP 0 1 rfl rfl (vp_in_nI (n := 4) (by decide) (by decide)) dX11_readRouter_35 ?_
      refine W.eq (g2 := F0 m 36 ls [.int (q_told 4), .int 12]) rfl ?_
      refine lv_iadd hx hb dX11_readRouter_36 ?_
      have b18 : iv 12 23 (12 + (q_told 4)) := iv_add ivk_12 b2 (by decide) (by decide) (by decide) (by decide)
      refine lv_istore_n (lv' := [(1, .int (12 + (q_told 4))), (0, .ref m0)]) hx hb dX11_readRouter_37 rfl hl (Nat.le_of_ble_eq_true rfl) rfl (fun ls hl => ?_)
      refine lv_aload_n hx hb dX11_readRouter_38 rfl (lv_at hl 1 rfl) ?_
      refine lv_aload_n hx hb dX11_readRouter_39 rfl (lv_at hl 1 rfl) ?_
      refine va_get (D := (dC, dI)) (ci := 11) (v := .ref (ra 1)) (C := RX11) (T := TX11) (N := 61) hx hb hts hin11 hown hK hP 7 rfl rfl 1 (Nat.le_of_ble_eq_true rfl) hw_2 (fun _ h9 => h9) rfl dX11_readRouter_40 ?_
      obtain ⟨hPc, hDc, hFc, hJn⟩ := cl_a (wc := [(m0, .inr (11, oX11 ra y7)), (ra 13, .inl (kI, 700, .inl q_tape)), (ra 1, .inl (kS, 4, .inr (.inr (.inr (.inr q_kinds)))))]) (wr := [(ra 2, .inl (kI, 8, .inl q_told)), (ra 3, .inl (kI, 24, .inl q_kind)), (ra 4, .inl (kI, 24, .inl q_salt)), (ra 5, .inl (kI, 24, .inl q_pace)), (ra 6, .inl (kI, 24, .inl q_mute)), (ra 7, .inl (kI, 24, .inl q_late))]) hP hD hS hA [7, 8, 6] [0, 1, 2, 3, 4, 5] rfl rfl (by decide +kernel)
      refine va_calli (va_runV (As := [.ref (ra 1)]) (rest := []) ⟨hx, hb, hml, hown, hts⟩ (s11_which l dC dI kB kI kJ kZ kC kS H.size adK adV m0 ra y7 q_tape (ra 1) q_kinds 4 tT nN (nextT tT nN sS) (hq8) (hq_tape) (by decide) (hki) (hq12) (hTQ)) (cwV 1 hts gX11_readRouter_X11_which rfl rfl rfl (by decide +kernel) ⟨Nat.le_of_ble_eq_true rfl, Nat.le_of_ble_eq_true rfl⟩) ⟨fun a U g mk q => by obtain ⟨q0, q1, qP, qE, qD, qL⟩ := q; exact ⟨q0, q1, qP, kE_call qE, qD, kL_call qL⟩, va_recv hK hP (ci := 11) (q0 := 7) rfl rfl, fun U hU hW => ⟨rfl, by rw [hU], by rw [hU]; exact hPc, kE_warm hW hE, hDc.weaken (fun _ _ _ _ => trivial), kL_at hKL hS hFc hW hU⟩⟩ rfl rfl hl.1 rfl (lv_room (Nat.le_of_ble_eq_true rfl)) dX11_readRouter_43 ⟨Nat.le_of_ble_eq_true rfl, Nat.le_of_ble_eq_true rfl⟩) hS (fun q _ h => hFc q h) hFc (fun r19 u t H locs ht hvm w20 hB hz1 hk1 hS => ?_)
      obtain ⟨hP1, hD1⟩ := hB
      try dsimp only at w20
      obtain ⟨hPa, hDa⟩ := hJn (w1 := [(m0, .inr (11, oX11 ra y7)), (ra 13, .inl (kI, 700, .inl q_tape)), (ra 1, .inl (kS, 4, .inr (.inr (.inr (.inr q_kinds)))))]) hk1 ht hP1 hD1
      clear hP hD hPc hDc hFc hJn hP1 hD1 hk1
      have hP : va_P (dC, dI) vwCl [(ra 2, .inl (kI, 8, .inl q_told)), (ra 3, .inl (kI, 24, .inl q_kind)), (ra 4, .inl (kI, 24, .inl q_salt)), (ra 5, .inl (kI, 24, .inl q_pace)), (ra 6, .inl (kI, 24, .inl q_mute)), (ra 7, .inl (kI, 24, .inl q_late)), (m0, .inr (11, oX11 ra y7)), (ra 13, .inl (kI, 700, .inl q_tape)), (ra 1, .inl (kS, 4, .inr (.inr (.inr (.inr q_kinds)))))] H := hPa
      have hD : va_D A [(ra 2, .inl (kI, 8, .inl q_told)), (ra 3, .inl (kI, 24, .inl q_kind)), (ra 4, .inl (kI, 24, .inl q_salt)), (ra 5, .inl (kI, 24, .inl q_pace)), (ra 6, .inl (kI, 24, .inl q_mute)), (ra 7, .inl (kI, 24, .inl q_late)), (m0, .inr (11, oX11 ra y7)), (ra 13, .inl (kI, 700, .inl q_tape)), (ra 1, .inl (kS, 4, .inr (.inr (.inr (.inr q_kinds)))))] := hDa
      clear hPa hDa
      refine W.widen (k := 0) (n := 0) (Nat.le_of_ble_eq_true rfl) (Nat.le_of_ble_eq_true rfl) ?_
      have hwk := w20.2
      refine lv_istore_n (lv' := [(2, .int r19), (1, .int (12 + (q_told 4))), (0, .ref m0)]) hx hb dX11_readRouter_46 rfl hl (Nat.le_of_ble_eq_true rfl) rfl (fun ls hl => ?_)
      refine lv_iload_n hx hb dX11_readRouter_47 rfl (lv_at hl 0 rfl) ?_
      refine lv_iconst (v := (-1)) hx hb dX11_readRouter_48 ic_m1 ?_
      refine lv_icmp_ne (tgt := 57) hx hb dX11_readRouter_49 rfl (fun c21 => ?_) (fun c21 => ?_)
      · have b22 : iv 0 3 r19 := iv_neLo c21 w20.1 ivk_m1 (by decide) (by decide)
        have hrr23 : RRd tT nN y7 (kndT tT (rtr1 tT nN sS)) := (kq_y hwk c21).1 ▸ hq12
        refine lv_aload_n hx hb dX11_readRouter_57 rfl (lv_at hl 2 rfl) ?_
        refine va_get (D := (dC, dI)) (ci := 11) (v := .int (y7 8)) (C := RX11) (T := TX11) (N := 61) hx hb hts hin11 hown hK hP 6 rfl rfl 22 (Nat.le_of_ble_eq_true rfl) hw_1 (fun _ h9 => h9) rfl dX11_readRouter_58 ?_
        refine lv_if_ne (tgt := 68) hx hb dX11_readRouter_61 rfl (fun c24 => ?_) (fun c24 => ?_)
        · have b25 : iv 1 5 (y7 8) := iv_neLo c24 (hq8 8 : iv 0 5 (y7 8)) ivk_0 (by decide) (by decide)
          have hrr26 : RRd tT nN y7 (rtr2 tT nN sS) := rr_stepN hrr23 c24
          refine lv_aload_n hx hb dX11_readRouter_68 rfl (lv_at hl 2 rfl) ?_
          refine va_get (D := (dC, dI)) (ci := 11) (v := .ref (ra 3)) (C := RX11) (T := TX11) (N := 61) hx hb hts hin11 hown hK hP 6 rfl rfl 4 (Nat.le_of_ble_eq_true rfl) hw_3 (fun _ h9 => h9) rfl dX11_readRouter_69 ?_
          refine lv_iload_n hx hb dX11_readRouter_72 rfl (lv_at hl 1 rfl) ?_
          refine lv_iload_n hx hb dX11_readRouter_73 rfl (lv_at hl 0 rfl) ?_
          refine va_iast hx hb hK hP hD hS 1 1 rfl rfl (iv_in b18 (by decide) (by decide)) dX11_readRouter_74 (fun H locs hPa hDa hS => ?_)
          clear hP hD
          have hP : va_P (dC, dI) vwCl [(ra 2, .inl (kI, 8, .inl q_told)), (ra 3, .inl (kI, 24, .inl (upd q_kind (12 + (q_told 4)).toNatClampNeg r19))), (ra 4, .inl (kI, 24, .inl q_salt)), (ra 5, .inl (kI, 24, .inl q_pace)), (ra 6, .inl (kI, 24, .inl q_mute)), (ra 7, .inl (kI, 24, .inl q_late)), (m0, .inr (11, oX11 ra y7)), (ra 13, .inl (kI, 700, .inl q_tape)), (ra 1, .inl (kS, 4, .inr (.inr (.inr (.inr q_kinds)))))] H := hPa
          have hD : va_D A [(ra 2, .inl (kI, 8, .inl q_told)), (ra 3, .inl (kI, 24, .inl (upd q_kind (12 + (q_told 4)).toNatClampNeg r19))), (ra 4, .inl (kI, 24, .inl q_salt)), (ra 5, .inl (kI, 24, .inl q_pace)), (ra 6, .inl (kI, 24, .inl q_mute)), (ra 7, .inl (kI, 24, .inl q_late)), (m0, .inr (11, oX11 ra y7)), (ra 13, .inl (kI, 700, .inl q_tape)), (ra 1, .inl (kS, 4, .inr (.inr (.inr (.inr q_kinds)))))] := hDa
          clear hPa hDa
          refine lv_aload_n hx hb dX11_readRouter_75 rfl (lv_at hl 2 rfl) ?_
          refine va_get (D := (dC, dI)) (ci := 11) (v := .ref (ra 4)) (C := RX11) (T := TX11) (N := 61) hx hb hts hin11 hown hK hP 6 rfl rfl 5 (Nat.le_of_ble_eq_true rfl) hw_4 (fun _ h9 => h9) rfl dX11_readRouter_76 ?_
          refine lv_iload_n hx hb dX11_readRouter_79 rfl (lv_at hl 1 rfl) ?_
          refine lv_aload_n hx hb dX11_readRouter_80 rfl (lv_at hl 2 rfl) ?_
          refine lv_iconst (v := 0) hx hb dX11_readRouter_81 ic_0 ?_
          refine lv_bipush (v := 15) hx hb dX11_readRouter_82 bp_15 ?_
          obtain ⟨hPc, hDc, hFc, hJn⟩ := cl_a (wc := [(m0, .inr (11, oX11 ra y7)), (ra 13, .inl (kI, 700, .inl q_tape))]) (wr := [(ra 2, .inl (kI, 8, .inl q_told)), (ra 3, .inl (kI, 24, .inl (upd q_kind (12 + (q_told 4)).toNatClampNeg r19))), (ra 4, .inl (kI, 24, .inl q_salt)), (ra 5, .inl (kI, 24, .inl q_pace)), (ra 6, .inl (kI, 24, .inl q_mute)), (ra 7, .inl (kI, 24, .inl q_late)), (ra 1, .inl (kS, 4, .inr (.inr (.inr (.inr q_kinds)))))]) hP hD hS hA [6, 7] [0, 1, 2, 3, 4, 5, 8] rfl rfl (by decide +kernel)
          refine va_calli (va_runV (As := [.int 0, .int 15]) (rest := [.int (12 + (q_told 4)), .ref (ra 4)]) ⟨hx, hb, hml, hown, hts⟩ (s11_readNumber_0_15 l dC dI kB kI kJ kZ kC kS H.size m0 ra y7 q_tape tT nN (rtr2 tT nN sS) (hq8) (hq_tape) (hrr26) (hTQ)) (cwV 2 hts gX11_readRouter_X11_readNumber rfl rfl rfl (by decide +kernel) ⟨Nat.le_of_ble_eq_true rfl, Nat.le_of_ble_eq_true rfl⟩) ⟨fun a U g mk q => by obtain ⟨q0, q1, qP, qE, qD⟩ := q; exact ⟨q0, q1, qP, kE_call qE, qD⟩, va_recv hK hP (ci := 11) (q0 := 6) rfl rfl, fun U hU hW => ⟨rfl, by rw [hU], by rw [hU]; exact hPc, kE_warm hW hE, hDc.weaken (fun _ _ _ _ => trivial)⟩⟩ rfl rfl hl.1 rfl (lv_room (Nat.le_of_ble_eq_true rfl)) dX11_readRouter_84 ⟨Nat.le_of_ble_eq_true rfl, Nat.le_of_ble_eq_true rfl⟩) hS (fun q _ h => hFc q h) hFc (fun r27 u t H locs ht hvm w28 hB hz1 hk1 hS => ?_)
          obtain ⟨y29, hq30, hq31, hq32, hq33, hq34, hq35, hq36, hq37, hq38, hP1, hD1⟩ := hB
          try dsimp only at w28
          obtain ⟨hPa, hDa⟩ := hJn (w1 := [(m0, .inr (11, oX11 ra y29)), (ra 13, .inl (kI, 700, .inl q_tape))]) hk1 ht hP1 hD1
          clear hP hD hPc hDc hFc hJn hP1 hD1 hk1
          have hP : va_P (dC, dI) vwCl [(ra 2, .inl (kI, 8, .inl q_told)), (ra 3, .inl (kI, 24, .inl (upd q_kind (12 + (q_told 4)).toNatClampNeg r19))), (ra 4, .inl (kI, 24, .inl q_salt)), (ra 5, .inl (kI, 24, .inl q_pace)), (ra 6, .inl (kI, 24, .inl q_mute)), (ra 7, .inl (kI, 24, .inl q_late)), (ra 1, .inl (kS, 4, .inr (.inr (.inr (.inr q_kinds))))), (m0, .inr (11, oX11 ra y29)), (ra 13, .inl (kI, 700, .inl q_tape))] H := hPa
          have hD : va_D A [(ra 2, .inl (kI, 8, .inl q_told)), (ra 3, .inl (kI, 24, .inl (upd q_kind (12 + (q_told 4)).toNatClampNeg r19))), (ra 4, .inl (kI, 24, .inl q_salt)), (ra 5, .inl (kI, 24, .inl q_pace)), (ra 6, .inl (kI, 24, .inl q_mute)), (ra 7, .inl (kI, 24, .inl q_late)), (ra 1, .inl (kS, 4, .inr (.inr (.inr (.inr q_kinds))))), (m0, .inr (11, oX11 ra y29)), (ra 13, .inl (kI, 700, .inl q_tape))] := hDa
          clear hPa hDa
          refine W.widen (k := 0) (n := 0) (Nat.le_of_ble_eq_true rfl) (Nat.le_of_ble_eq_true rfl) ?_
          have hv2 := w28.2
          refine va_iast hx hb hK hP hD hS 2 1 rfl rfl (iv_in b18 (by decide) (by decide)) dX11_readRouter_87 (fun H locs hPa hDa hS => ?_)
          clear hP hD
          have hP : va_P (dC, dI) vwCl [(ra 2, .inl (kI, 8, .inl q_told)), (ra 3, .inl (kI, 24, .inl (upd q_kind (12 + (q_told 4)).toNatClampNeg r19))), (ra 4, .inl (kI, 24, .inl (upd q_salt (12 + (q_told 4)).toNatClampNeg r27))), (ra 5, .inl (kI, 24, .inl q_pace)), (ra 6, .inl (kI, 24, .inl q_mute)), (ra 7, .inl (kI, 24, .inl q_late)), (ra 1, .inl (kS, 4, .inr (.inr (.inr (.inr q_kinds))))), (m0, .inr (11, oX11 ra y29)), (ra 13, .inl (kI, 700, .inl q_tape))] H := hPa
          have hD : va_D A [(ra 2, .inl (kI, 8, .inl q_told)), (ra 3, .inl (kI, 24, .inl (upd q_kind (12 + (q_told 4)).toNatClampNeg r19))), (ra 4, .inl (kI, 24, .inl (upd q_salt (12 + (q_told 4)).toNatClampNeg r27))), (ra 5, .inl (kI, 24, .inl q_pace)), (ra 6, .inl (kI, 24, .inl q_mute)), (ra 7, .inl (kI, 24, .inl q_late)), (ra 1, .inl (kS, 4, .inr (.inr (.inr (.inr q_kinds))))), (m0, .inr (11, oX11 ra y29)), (ra 13, .inl (kI, 700, .inl q_tape))] := hDa
          clear hPa hDa
          have hrr39 : RRd tT nN y29 (rtr3 tT nN sS) := hq33
          refine lv_aload_n hx hb dX11_readRouter_88 rfl (lv_at hl 2 rfl) ?_
          refine va_get (D := (dC, dI)) (ci := 11) (v := .ref (ra 5)) (C := RX11) (T := TX11) (N := 61) hx hb hts hin11 hown hK hP 7 rfl rfl 6 (Nat.le_of_ble_eq_true rfl) hw_5 (fun _ h9 => h9) rfl dX11_readRouter_89 ?_
          refine lv_iload_n hx hb dX11_readRouter_92 rfl (lv_at hl 1 rfl) ?_
          refine lv_aload_n hx hb dX11_readRouter_93 rfl (lv_at hl 2 rfl) ?_
          refine lv_iconst (v := 1) hx hb dX11_readRouter_94 ic_1 ?_
          refine lv_bipush (v := 60) hx hb dX11_readRouter_95 bp_60 ?_
          obtain ⟨hPc, hDc, hFc, hJn⟩ := cl_a (wc := [(m0, .inr (11, oX11 ra y29)), (ra 13, .inl (kI, 700, .inl q_tape))]) (wr := [(ra 2, .inl (kI, 8, .inl q_told)), (ra 3, .inl (kI, 24, .inl (upd q_kind (12 + (q_told 4)).toNatClampNeg r19))), (ra 4, .inl (kI, 24, .inl (upd q_salt (12 + (q_told 4)).toNatClampNeg r27))), (ra 5, .inl (kI, 24, .inl q_pace)), (ra 6, .inl (kI, 24, .inl q_mute)), (ra 7, .inl (kI, 24, .inl q_late)), (ra 1, .inl (kS, 4, .inr (.inr (.inr (.inr q_kinds)))))]) hP hD hS hA [7, 8] [0, 1, 2, 3, 4, 5, 6] rfl rfl (by decide +kernel)
          refine va_calli (va_runV (As := [.int 1, .int 60]) (rest := [.int (12 + (q_told 4)), .ref (ra 5)]) ⟨hx, hb, hml, hown, hts⟩ (s11_readNumber_1_60 l dC dI kB kI kJ kZ kC kS H.size m0 ra y29 q_tape tT nN (rtr3 tT nN sS) (hq30) (hq_tape) (hrr39) (hTQ)) (cwV 2 hts gX11_readRouter_X11_readNumber rfl rfl rfl (by decide +kernel) ⟨Nat.le_of_ble_eq_true rfl, Nat.le_of_ble_eq_true rfl⟩) ⟨fun a U g mk q => by obtain ⟨q0, q1, qP, qE, qD⟩ := q; exact ⟨q0, q1, qP, kE_call qE, qD⟩, va_recv hK hP (ci := 11) (q0 := 7) rfl rfl, fun U hU hW => ⟨rfl, by rw [hU], by rw [hU]; exact hPc, kE_warm hW hE, hDc.weaken (fun _ _ _ _ => trivial)⟩⟩ rfl rfl hl.1 rfl (lv_room (Nat.le_of_ble_eq_true rfl)) dX11_readRouter_97 ⟨Nat.le_of_ble_eq_true rfl, Nat.le_of_ble_eq_true rfl⟩) hS (fun q _ h => hFc q h) hFc (fun r40 u t H locs ht hvm w41 hB hz1 hk1 hS => ?_)
          obtain ⟨y42, hq43, hq44, hq45, hq46, hq47, hq48, hq49, hq50, hq51, hP1, hD1⟩ := hB
          try dsimp only at w41
          obtain ⟨hPa, hDa⟩ := hJn (w1 := [(m0, .inr (11, oX11 ra y42)), (ra 13, .inl (kI, 700, .inl q_tape))]) hk1 ht hP1 hD1
          clear hP hD hPc hDc hFc hJn hP1 hD1 hk1
          have hP : va_P (dC, dI) vwCl [(ra 2, .inl (kI, 8, .inl q_told)), (ra 3, .inl (kI, 24, .inl (upd q_kind (12 + (q_told 4)).toNatClampNeg r19))), (ra 4, .inl (kI, 24, .inl (upd q_salt (12 + (q_told 4)).toNatClampNeg r27))), (ra 5, .inl (kI, 24, .inl q_pace)), (ra 6, .inl (kI, 24, .inl q_mute)), (ra 7, .inl (kI, 24, .inl q_late)), (ra 1, .inl (kS, 4, .inr (.inr (.inr (.inr q_kinds))))), (m0, .inr (11, oX11 ra y42)), (ra 13, .inl (kI, 700, .inl q_tape))] H := hPa
          have hD : va_D A [(ra 2, .inl (kI, 8, .inl q_told)), (ra 3, .inl (kI, 24, .inl (upd q_kind (12 + (q_told 4)).toNatClampNeg r19))), (ra 4, .inl (kI, 24, .inl (upd q_salt (12 + (q_told 4)).toNatClampNeg r27))), (ra 5, .inl (kI, 24, .inl q_pace)), (ra 6, .inl (kI, 24, .inl q_mute)), (ra 7, .inl (kI, 24, .inl q_late)), (ra 1, .inl (kS, 4, .inr (.inr (.inr (.inr q_kinds))))), (m0, .inr (11, oX11 ra y42)), (ra 13, .inl (kI, 700, .inl q_tape))] := hDa
          clear hPa hDa
          refine W.widen (k := 0) (n := 0) (Nat.le_of_ble_eq_true rfl) (Nat.le_of_ble_eq_true rfl) ?_
          have hv3 := w41.2
          refine va_iast hx hb hK hP hD hS 3 1 rfl rfl (iv_in b18 (by decide) (by decide)) dX11_readRouter_100 (fun H locs hPa hDa hS => ?_)
          clear hP hD
          have hP : va_P (dC, dI) vwCl [(ra 2, .inl (kI, 8, .inl q_told)), (ra 3, .inl (kI, 24, .inl (upd q_kind (12 + (q_told 4)).toNatClampNeg r19))), (ra 4, .inl (kI, 24, .inl (upd q_salt (12 + (q_told 4)).toNatClampNeg r27))), (ra 5, .inl (kI, 24, .inl (upd q_pace (12 + (q_told 4)).toNatClampNeg r40))), (ra 6, .inl (kI, 24, .inl q_mute)), (ra 7, .inl (kI, 24, .inl q_late)), (ra 1, .inl (kS, 4, .inr (.inr (.inr (.inr q_kinds))))), (m0, .inr (11, oX11 ra y42)), (ra 13, .inl (kI, 700, .inl q_tape))] H := hPa
          have hD : va_D A [(ra 2, .inl (kI, 8, .inl q_told)), (ra 3, .inl (kI, 24, .inl (upd q_kind (12 + (q_told 4)).toNatClampNeg r19))), (ra 4, .inl (kI, 24, .inl (upd q_salt (12 + (q_told 4)).toNatClampNeg r27))), (ra 5, .inl (kI, 24, .inl (upd q_pace (12 + (q_told 4)).toNatClampNeg r40))), (ra 6, .inl (kI, 24, .inl q_mute)), (ra 7, .inl (kI, 24, .inl q_late)), (ra 1, .inl (kS, 4, .inr (.inr (.inr (.inr q_kinds))))), (m0, .inr (11, oX11 ra y42)), (ra 13, .inl (kI, 700, .inl q_tape))] := hDa
          clear hPa hDa
          have hrr52 : RRd tT nN y42 (rtr4 tT nN sS) := hq46
          refine lv_aload_n hx hb dX11_readRouter_101 rfl (lv_at hl 2 rfl) ?_
          refine va_get (D := (dC, dI)) (ci := 11) (v := .ref (ra 6)) (C := RX11) (T := TX11) (N := 61) hx hb hts hin11 hown hK hP 7 rfl rfl 7 (Nat.le_of_ble_eq_true rfl) hw_6 (fun _ h9 => h9) rfl dX11_readRouter_102 ?_
          refine lv_iload_n hx hb dX11_readRouter_105 rfl (lv_at hl 1 rfl) ?_
          refine lv_aload_n hx hb dX11_readRouter_106 rfl (lv_at hl 2 rfl) ?_
          refine va_ldcS hx hb hown hKL.2.2.2.2.2.2.2.2.2.2.2.2.2.2.2.2.2.2.2.2.2.1 dX11_readRouter_107 ?_
          obtain ⟨hPc, hDc, hFc, hJn⟩ := cl_a (wc := [(m0, .inr (11, oX11 ra y42)), (ra 13, .inl (kI, 700, .inl q_tape))]) (wr := [(ra 2, .inl (kI, 8, .inl q_told)), (ra 3, .inl (kI, 24, .inl (upd q_kind (12 + (q_told 4)).toNatClampNeg r19))), (ra 4, .inl (kI, 24, .inl (upd q_salt (12 + (q_told 4)).toNatClampNeg r27))), (ra 5, .inl (kI, 24, .inl (upd q_pace (12 + (q_told 4)).toNatClampNeg r40))), (ra 6, .inl (kI, 24, .inl q_mute)), (ra 7, .inl (kI, 24, .inl q_late)), (ra 1, .inl (kS, 4, .inr (.inr (.inr (.inr q_kinds)))))]) hP hD hS hA [7, 8] [0, 1, 2, 3, 4, 5, 6] rfl rfl (by decide +kernel)
          refine va_calli (va_runV (As := [.ref (adK 8)]) (rest := [.int (12 + (q_told 4)), .ref (ra 6)]) ⟨hx, hb, hml, hown, hts⟩ (s11_is l dC dI kB kI kJ kZ kC kS H.size adK adV m0 ra y42 q_tape 8 tT nN (rtr4 tT nN sS) (hq43) (hq_tape) ((by decide)) (hrr52) (hTQ)) (cwV 1 hts gX11_readRouter_X11_is rfl rfl rfl (by decide +kernel) ⟨Nat.le_of_ble_eq_true rfl, Nat.le_of_ble_eq_true rfl⟩) ⟨fun a U g mk q => by obtain ⟨q0, q1, qP, qE, qD, qL⟩ := q; exact ⟨q0, q1, qP, kE_call qE, qD, kL_call qL⟩, va_recv hK hP (ci := 11) (q0 := 7) rfl rfl, fun U hU hW => ⟨rfl, by rw [hU], by rw [hU]; exact hPc, kE_warm hW hE, hDc.weaken (fun _ _ _ _ => trivial), kL_at hKL hS hFc hW hU⟩⟩ rfl rfl hl.1 rfl (lv_room (Nat.le_of_ble_eq_true rfl)) dX11_readRouter_109 ⟨Nat.le_of_ble_eq_true rfl, Nat.le_of_ble_eq_true rfl⟩) hS (fun q _ h => hFc q h) hFc (fun r53 u t H locs ht hvm w54 hB hz1 hk1 hS => ?_)
          obtain ⟨hP1, hD1⟩ := hB
          try dsimp only at w54
          obtain ⟨hPa, hDa⟩ := hJn (w1 := [(m0, .inr (11, oX11 ra y42)), (ra 13, .inl (kI, 700, .inl q_tape))]) hk1 ht hP1 hD1
          clear hP hD hPc hDc hFc hJn hP1 hD1 hk1
          have hP : va_P (dC, dI) vwCl [(ra 2, .inl (kI, 8, .inl q_told)), (ra 3, .inl (kI, 24, .inl (upd q_kind (12 + (q_told 4)).toNatClampNeg r19))), (ra 4, .inl (kI, 24, .inl (upd q_salt (12 + (q_told 4)).toNatClampNeg r27))), (ra 5, .inl (kI, 24, .inl (upd q_pace (12 + (q_told 4)).toNatClampNeg r40))), (ra 6, .inl (kI, 24, .inl q_mute)), (ra 7, .inl (kI, 24, .inl q_late)), (ra 1, .inl (kS, 4, .inr (.inr (.inr (.inr q_kinds))))), (m0, .inr (11, oX11 ra y42)), (ra 13, .inl (kI, 700, .inl q_tape))] H := hPa
          have hD : va_D A [(ra 2, .inl (kI, 8, .inl q_told)), (ra 3, .inl (kI, 24, .inl (upd q_kind (12 + (q_told 4)).toNatClampNeg r19))), (ra 4, .inl (kI, 24, .inl (upd q_salt (12 + (q_told 4)).toNatClampNeg r27))), (ra 5, .inl (kI, 24, .inl (upd q_pace (12 + (q_told 4)).toNatClampNeg r40))), (ra 6, .inl (kI, 24, .inl q_mute)), (ra 7, .inl (kI, 24, .inl q_late)), (ra 1, .inl (kS, 4, .inr (.inr (.inr (.inr q_kinds))))), (m0, .inr (11, oX11 ra y42)), (ra 13, .inl (kI, 700, .inl q_tape))] := hDa
          clear hPa hDa
          refine W.widen (k := 0) (n := 0) (Nat.le_of_ble_eq_true rfl) (Nat.le_of_ble_eq_true rfl) ?_
          obtain ⟨w54, b55⟩ := w54
          subst w54
          refine lv_if_eq (tgt := 119) hx hb dX11_readRouter_112 rfl (fun c56 => ?_) (fun c56 => ?_)
          · have b57 : iv 0 0 (wS tT 8 (rtr4 tT nN sS)) := iv_eqL c56 ivk_0
            refine lv_iconst (v := 0) hx hb dX11_readRouter_119 ic_0 ?_
            refine va_iast hx hb hK hP hD hS 4 1 rfl rfl (iv_in b18 (by decide) (by decide)) dX11_readRouter_120 (fun H locs hPa hDa hS => ?_)
            clear hP hD
            have hP : va_P (dC, dI) vwCl [(ra 2, .inl (kI, 8, .inl q_told)), (ra 3, .inl (kI, 24, .inl (upd q_kind (12 + (q_told 4)).toNatClampNeg r19))), (ra 4, .inl (kI, 24, .inl (upd q_salt (12 + (q_told 4)).toNatClampNeg r27))), (ra 5, .inl (kI, 24, .inl (upd q_pace (12 + (q_told 4)).toNatClampNeg r40))), (ra 6, .inl (kI, 24, .inl (upd q_mute (12 + (q_told 4)).toNatClampNeg 0))), (ra 7, .inl (kI, 24, .inl q_late)), (ra 1, .inl (kS, 4, .inr (.inr (.inr (.inr q_kinds))))), (m0, .inr (11, oX11 ra y42)), (ra 13, .inl (kI, 700, .inl q_tape))] H := hPa
            have hD : va_D A [(ra 2, .inl (kI, 8, .inl q_told)), (ra 3, .inl (kI, 24, .inl (upd q_kind (12 + (q_told 4)).toNatClampNeg r19))), (ra 4, .inl (kI, 24, .inl (upd q_salt (12 + (q_told 4)).toNatClampNeg r27))), (ra 5, .inl (kI, 24, .inl (upd q_pace (12 + (q_told 4)).toNatClampNeg r40))), (ra 6, .inl (kI, 24, .inl (upd q_mute (12 + (q_told 4)).toNatClampNeg 0))), (ra 7, .inl (kI, 24, .inl q_late)), (ra 1, .inl (kS, 4, .inr (.inr (.inr (.inr q_kinds))))), (m0, .inr (11, oX11 ra y42)), (ra 13, .inl (kI, 700, .inl q_tape))] := hDa
            clear hPa hDa
            refine lv_aload_n hx hb dX11_readRouter_121 rfl (lv_at hl 2 rfl) ?_
            refine va_get (D := (dC, dI)) (ci := 11) (v := .ref (ra 7)) (C := RX11) (T := TX11) (N := 61) hx hb hts hin11 hown hK hP 7 rfl rfl 8 (Nat.le_of_ble_eq_true rfl) hw_7 (fun _ h9 => h9) rfl dX11_readRouter_122 ?_
            refine lv_iload_n hx hb dX11_readRouter_125 rfl (lv_at hl 1 rfl) ?_
            refine lv_aload_n hx hb dX11_readRouter_126 rfl (lv_at hl 2 rfl) ?_
            refine va_ldcS hx hb hown hKL.2.2.2.2.2.2.2.2.2.2.2.2.2.2.2.2.2.2.2.2.2.2 dX11_readRouter_127 ?_
            obtain ⟨hPc, hDc, hFc, hJn⟩ := cl_a (wc := [(m0, .inr (11, oX11 ra y42)), (ra 13, .inl (kI, 700, .inl q_tape))]) (wr := [(ra 2, .inl (kI, 8, .inl q_told)), (ra 3, .inl (kI, 24, .inl (upd q_kind (12 + (q_told 4)).toNatClampNeg r19))), (ra 4, .inl (kI, 24, .inl (upd q_salt (12 + (q_told 4)).toNatClampNeg r27))), (ra 5, .inl (kI, 24, .inl (upd q_pace (12 + (q_told 4)).toNatClampNeg r40))), (ra 6, .inl (kI, 24, .inl (upd q_mute (12 + (q_told 4)).toNatClampNeg 0))), (ra 7, .inl (kI, 24, .inl q_late)), (ra 1, .inl (kS, 4, .inr (.inr (.inr (.inr q_kinds)))))]) hP hD hS hA [7, 8] [0, 1, 2, 3, 4, 5, 6] rfl rfl (by decide +kernel)
            refine va_calli (va_runV (As := [.ref (adK 9)]) (rest := [.int (12 + (q_told 4)), .ref (ra 7)]) ⟨hx, hb, hml, hown, hts⟩ (s11_is l dC dI kB kI kJ kZ kC kS H.size adK adV m0 ra y42 q_tape 9 tT nN (rtr4 tT nN sS) (hq43) (hq_tape) ((by decide)) (hrr52) (hTQ)) (cwV 1 hts gX11_readRouter_X11_is rfl rfl rfl (by decide +kernel) ⟨Nat.le_of_ble_eq_true rfl, Nat.le_of_ble_eq_true rfl⟩) ⟨fun a U g mk q => by obtain ⟨q0, q1, qP, qE, qD, qL⟩ := q; exact ⟨q0, q1, qP, kE_call qE, qD, kL_call qL⟩, va_recv hK hP (ci := 11) (q0 := 7) rfl rfl, fun U hU hW => ⟨rfl, by rw [hU], by rw [hU]; exact hPc, kE_warm hW hE, hDc.weaken (fun _ _ _ _ => trivial), kL_at hKL hS hFc hW hU⟩⟩ rfl rfl hl.1 rfl (lv_room (Nat.le_of_ble_eq_true rfl)) dX11_readRouter_129 ⟨Nat.le_of_ble_eq_true rfl, Nat.le_of_ble_eq_true rfl⟩) hS (fun q _ h => hFc q h) hFc (fun r58 u t H locs ht hvm w59 hB hz1 hk1 hS => ?_)
            obtain ⟨hP1, hD1⟩ := hB
            try dsimp only at w59
            obtain ⟨hPa, hDa⟩ := hJn (w1 := [(m0, .inr (11, oX11 ra y42)), (ra 13, .inl (kI, 700, .inl q_tape))]) hk1 ht hP1 hD1
            clear hP hD hPc hDc hFc hJn hP1 hD1 hk1
            have hP : va_P (dC, dI) vwCl [(ra 2, .inl (kI, 8, .inl q_told)), (ra 3, .inl (kI, 24, .inl (upd q_kind (12 + (q_told 4)).toNatClampNeg r19))), (ra 4, .inl (kI, 24, .inl (upd q_salt (12 + (q_told 4)).toNatClampNeg r27))), (ra 5, .inl (kI, 24, .inl (upd q_pace (12 + (q_told 4)).toNatClampNeg r40))), (ra 6, .inl (kI, 24, .inl (upd q_mute (12 + (q_told 4)).toNatClampNeg 0))), (ra 7, .inl (kI, 24, .inl q_late)), (ra 1, .inl (kS, 4, .inr (.inr (.inr (.inr q_kinds))))), (m0, .inr (11, oX11 ra y42)), (ra 13, .inl (kI, 700, .inl q_tape))] H := hPa
            have hD : va_D A [(ra 2, .inl (kI, 8, .inl q_told)), (ra 3, .inl (kI, 24, .inl (upd q_kind (12 + (q_told 4)).toNatClampNeg r19))), (ra 4, .inl (kI, 24, .inl (upd q_salt (12 + (q_told 4)).toNatClampNeg r27))), (ra 5, .inl (kI, 24, .inl (upd q_pace (12 + (q_told 4)).toNatClampNeg r40))), (ra 6, .inl (kI, 24, .inl (upd q_mute (12 + (q_told 4)).toNatClampNeg 0))), (ra 7, .inl (kI, 24, .inl q_late)), (ra 1, .inl (kS, 4, .inr (.inr (.inr (.inr q_kinds))))), (m0, .inr (11, oX11 ra y42)), (ra 13, .inl (kI, 700, .inl q_tape))] := hDa
            clear hPa hDa
            refine W.widen (k := 0) (n := 0) (Nat.le_of_ble_eq_true rfl) (Nat.le_of_ble_eq_true rfl) ?_
            obtain ⟨w59, b60⟩ := w59
            subst w59
            refine lv_if_eq (tgt := 139) hx hb dX11_readRouter_132 rfl (fun c61 => ?_) (fun c61 => ?_)
            · have b62 : iv 0 0 (wS tT 9 (rtr4 tT nN sS)) := iv_eqL c61 ivk_0
              refine lv_iconst (v := 0) hx hb dX11_readRouter_139 ic_0 ?_
              refine va_iast hx hb hK hP hD hS 5 1 rfl rfl (iv_in b18 (by decide) (by decide)) dX11_readRouter_140 (fun H locs hPa hDa hS => ?_)
              clear hP hD
              have hP : va_P (dC, dI) vwCl [(ra 2, .inl (kI, 8, .inl q_told)), (ra 3, .inl (kI, 24, .inl (upd q_kind (12 + (q_told 4)).toNatClampNeg r19))), (ra 4, .inl (kI, 24, .inl (upd q_salt (12 + (q_told 4)).toNatClampNeg r27))), (ra 5, .inl (kI, 24, .inl (upd q_pace (12 + (q_told 4)).toNatClampNeg r40))), (ra 6, .inl (kI, 24, .inl (upd q_mute (12 + (q_told 4)).toNatClampNeg 0))), (ra 7, .inl (kI, 24, .inl (upd q_late (12 + (q_told 4)).toNatClampNeg 0))), (ra 1, .inl (kS, 4, .inr (.inr (.inr (.inr q_kinds))))), (m0, .inr (11, oX11 ra y42)), (ra 13, .inl (kI, 700, .inl q_tape))] H := hPa
              have hD : va_D A [(ra 2, .inl (kI, 8, .inl q_told)), (ra 3, .inl (kI, 24, .inl (upd q_kind (12 + (q_told 4)).toNatClampNeg r19))), (ra 4, .inl (kI, 24, .inl (upd q_salt (12 + (q_told 4)).toNatClampNeg r27))), (ra 5, .inl (kI, 24, .inl (upd q_pace (12 + (q_told 4)).toNatClampNeg r40))), (ra 6, .inl (kI, 24, .inl (upd q_mute (12 + (q_told 4)).toNatClampNeg 0))), (ra 7, .inl (kI, 24, .inl (upd q_late (12 + (q_told 4)).toNatClampNeg 0))), (ra 1, .inl (kS, 4, .inr (.inr (.inr (.inr q_kinds))))), (m0, .inr (11, oX11 ra y42)), (ra 13, .inl (kI, 700, .inl q_tape))] := hDa
              clear hPa hDa
              refine lv_aload_n hx hb dX11_readRouter_141 rfl (lv_at hl 2 rfl) ?_
              refine va_get (D := (dC, dI)) (ci := 11) (v := .int (y42 8)) (C := RX11) (T := TX11) (N := 61) hx hb hts hin11 hown hK hP 7 rfl rfl 22 (Nat.le_of_ble_eq_true rfl) hw_1 (fun _ h9 => h9) rfl dX11_readRouter_142 ?_
              refine lv_if_ne (tgt := 168) hx hb dX11_readRouter_145 rfl (fun c63 => ?_) (fun c63 => ?_)
              · have b64 : iv 1 5 (y42 8) := iv_neLo c63 (hq43 8 : iv 0 5 (y42 8)) ivk_0 (by decide) (by decide)
                have hrr65 : RRd tT nN y42 (manT tT nN (rtr4 tT nN sS)) := (mq_b hrr52 c63) ▸ hrr52
                refine lv_aload_n hx hb dX11_readRouter_168 rfl (lv_at hl 2 rfl) ?_
                refine va_get (D := (dC, dI)) (ci := 11) (v := .ref (ra 2)) (C := RX11) (T := TX11) (N := 61) hx hb hts hin11 hown hK hP 7 rfl rfl 3 (Nat.le_of_ble_eq_true rfl) hw_0 (fun _ h9 => h9) rfl dX11_readRouter_169 ?_
                refine lv_iconst (v := 4) hx hb dX11_readRouter_172 ic_4 ?_
                refine lv_dup2_11 hx hb dX11_readRouter_173 rfl rfl ?_
                refine va_iald hx hb hK hP 0 1 rfl rfl (vp_in_nI (n := 4) (by decide) (by decide)) dX11_readRouter_174 ?_
                refine W.eq (g2 := F0 m 175 ls [.int (q_told 4), .int 4, .ref (ra 2)]) rfl ?_
                refine lv_iconst (v := 1) hx hb dX11_readRouter_175 ic_1 ?_
                refine lv_iadd hx hb dX11_readRouter_176 ?_
                have b66 : iv 1 12 ((q_told 4) + 1) := iv_add b2 ivk_1 (by decide) (by decide) (by decide) (by decide)
                refine va_iast hx hb hK hP hD hS 0 1 rfl rfl (vp_in_nI (n := 4) (by decide) (by decide)) dX11_readRouter_177 (fun H locs hPa hDa hS => ?_)
                clear hP hD
                have hP : va_P (dC, dI) vwCl [(ra 2, .inl (kI, 8, .inl (upd q_told 4 ((q_told 4) + 1)))), (ra 3, .inl (kI, 24, .inl (upd q_kind (12 + (q_told 4)).toNatClampNeg r19))), (ra 4, .inl (kI, 24, .inl (upd q_salt (12 + (q_told 4)).toNatClampNeg r27))), (ra 5, .inl (kI, 24, .inl (upd q_pace (12 + (q_told 4)).toNatClampNeg r40))), (ra 6, .inl (kI, 24, .inl (upd q_mute (12 + (q_told 4)).toNatClampNeg 0))), (ra 7, .inl (kI, 24, .inl (upd q_late (12 + (q_told 4)).toNatClampNeg 0))), (ra 1, .inl (kS, 4, .inr (.inr (.inr (.inr q_kinds))))), (m0, .inr (11, oX11 ra y42)), (ra 13, .inl (kI, 700, .inl q_tape))] H := hPa
                have hD : va_D A [(ra 2, .inl (kI, 8, .inl (upd q_told 4 ((q_told 4) + 1)))), (ra 3, .inl (kI, 24, .inl (upd q_kind (12 + (q_told 4)).toNatClampNeg r19))), (ra 4, .inl (kI, 24, .inl (upd q_salt (12 + (q_told 4)).toNatClampNeg r27))), (ra 5, .inl (kI, 24, .inl (upd q_pace (12 + (q_told 4)).toNatClampNeg r40))), (ra 6, .inl (kI, 24, .inl (upd q_mute (12 + (q_told 4)).toNatClampNeg 0))), (ra 7, .inl (kI, 24, .inl (upd q_late (12 + (q_told 4)).toNatClampNeg 0))), (ra 1, .inl (kS, 4, .inr (.inr (.inr (.inr q_kinds))))), (m0, .inr (11, oX11 ra y42)), (ra 13, .inl (kI, 700, .inl q_tape))] := hDa
                clear hPa hDa
                have hPD9 := cl_s (wc := [(m0, .inr (11, oX11 ra y42)), (ra 2, .inl (kI, 8, .inl (upd q_told 4 ((q_told 4) + 1)))), (ra 3, .inl (kI, 24, .inl (upd q_kind (12 + (q_told 4)).toNatClampNeg r19))), (ra 4, .inl (kI, 24, .inl (upd q_salt (12 + (q_told 4)).toNatClampNeg r27))), (ra 5, .inl (kI, 24, .inl (upd q_pace (12 + (q_told 4)).toNatClampNeg r40))), (ra 6, .inl (kI, 24, .inl (upd q_mute (12 + (q_told 4)).toNatClampNeg 0))), (ra 7, .inl (kI, 24, .inl (upd q_late (12 + (q_told 4)).toNatClampNeg 0))), (ra 13, .inl (kI, 700, .inl q_tape)), (ra 1, .inl (kS, 4, .inr (.inr (.inr (.inr q_kinds)))))]) hP hD [7, 0, 1, 2, 3, 4, 5, 8, 6] rfl (by decide +kernel)
                have hP9 := hPD9.1
                have hD9 := hPD9.2
                exact W.vret hx hb hr (fun t ht hW => ⟨⟨(), rfl, trivial, y42, upd q_told 4 ((q_told 4) + 1), upd q_kind (12 + (q_told 4)).toNatClampNeg r19, upd q_salt (12 + (q_told 4)).toNatClampNeg r27, upd q_pace (12 + (q_told 4)).toNatClampNeg r40, upd q_mute (12 + (q_told 4)).toNatClampNeg 0, upd q_late (12 + (q_told 4)).toNatClampNeg 0, hq43, (fI_u hq_told (k := 4) ((iv_w b66 (by decide) (by decide)))), (fI_u hq_salt (k := (12 + (q_told 4)).toNatClampNeg) (w28.1)), (show (x0 2).toInt ≤ (y42 2).toInt from by omega), (show y42 3 = x0 3 from hq45.trans (hq32.trans (hq10))), (show ∀ j : Nat, (j : Int) < (q_told 1).toInt → (q_from j).toInt < (q_to j).toInt from hLT), (show ∀ j : Nat, (j : Int) < (q_told 5).toInt → (q_from (20 + j)).toInt < (q_to (20 + j)).toInt from hLD), (show RRd tT nN y42 (rtrS tT nN sS (q_told 4)) from it_f (Q := RRd tT nN y42) c1 (hrr65)), fun w => absurd w c63, low_t (by decide), (show y42 1 = x0 1 from hq47.trans (hq34.trans (hq13))), (show y42 10 = x0 10 from hq48.trans (hq35.trans (hq14))), (show y42 21 = x0 21 from hq49.trans (hq36.trans (hq15))), (show y42 25 = x0 25 from hq50.trans (hq37.trans (hq16))), (show y42 23 = x0 23 from hq51.trans (hq38.trans (hq17))), by rw [ht]; exact hP9, hD9⟩, hS.F ht⟩) hS.2.2 dX11_readRouter_178
              · have b67 : iv 0 0 (y42 8) := iv_eqL c63 ivk_0
                refine lv_aload_n hx hb dX11_readRouter_148 rfl (lv_at hl 2 rfl) ?_
                refine va_get (D := (dC, dI)) (ci := 11) (v := .ref (ra 6)) (C := RX11) (T := TX11) (N := 61) hx hb hts hin11 hown hK hP 7 rfl rfl 7 (Nat.le_of_ble_eq_true rfl) hw_6 (fun _ h9 => h9) rfl dX11_readRouter_149 ?_
                refine lv_iload_n hx hb dX11_readRouter_152 rfl (lv_at hl 1 rfl) ?_
                refine va_iald hx hb hK hP 4 1 rfl rfl (iv_in b18 (by decide) (by decide)) dX11_readRouter_153 ?_
                refine W.eq (g2 := F0 m 154 ls [.int 0]) (by rw [upd_eq]) ?_
                refine lv_aload_n hx hb dX11_readRouter_154 rfl (lv_at hl 2 rfl) ?_
                refine va_get (D := (dC, dI)) (ci := 11) (v := .ref (ra 7)) (C := RX11) (T := TX11) (N := 61) hx hb hts hin11 hown hK hP 7 rfl rfl 8 (Nat.le_of_ble_eq_true rfl) hw_7 (fun _ h9 => h9) rfl dX11_readRouter_155 ?_
                refine lv_iload_n hx hb dX11_readRouter_158 rfl (lv_at hl 1 rfl) ?_
                refine va_iald hx hb hK hP 5 1 rfl rfl (iv_in b18 (by decide) (by decide)) dX11_readRouter_159 ?_
                refine W.eq (g2 := F0 m 160 ls [.int 0, .int 0]) (by rw [upd_eq]) ?_
                refine lv_iadd hx hb dX11_readRouter_160 ?_
                refine lv_topi (fun z68 e69 => ?_)
                obtain rfl : z68 = (0 : Int32) := e69.trans (by decide)
                refine lv_if_le (tgt := 168) hx hb dX11_readRouter_161 rfl (fun _ => ?_) (fun c9 => absurd (by decide) c9)
                have hrr70 : RRd tT nN y42 (manT tT nN (rtr4 tT nN sS)) := (mq_0 hrr52 c63 c56 c61) ▸ hrr52
                refine lv_aload_n hx hb dX11_readRouter_168 rfl (lv_at hl 2 rfl) ?_
                refine va_get (D := (dC, dI)) (ci := 11) (v := .ref (ra 2)) (C := RX11) (T := TX11) (N := 61) hx hb hts hin11 hown hK hP 7 rfl rfl 3 (Nat.le_of_ble_eq_true rfl) hw_0 (fun _ h9 => h9) rfl dX11_readRouter_169 ?_
                refine lv_iconst (v := 4) hx hb dX11_readRouter_172 ic_4 ?_
                refine lv_dup2_11 hx hb dX11_readRouter_173 rfl rfl ?_
                refine va_iald hx hb hK hP 0 1 rfl rfl (vp_in_nI (n := 4) (by decide) (by decide)) dX11_readRouter_174 ?_
                refine W.eq (g2 := F0 m 175 ls [.int (q_told 4), .int 4, .ref (ra 2)]) rfl ?_
                refine lv_iconst (v := 1) hx hb dX11_readRouter_175 ic_1 ?_
                refine lv_iadd hx hb dX11_readRouter_176 ?_
                have b71 : iv 1 12 ((q_told 4) + 1) := iv_add b2 ivk_1 (by decide) (by decide) (by decide) (by decide)
                refine va_iast hx hb hK hP hD hS 0 1 rfl rfl (vp_in_nI (n := 4) (by decide) (by decide)) dX11_readRouter_177 (fun H locs hPa hDa hS => ?_)
                clear hP hD
                have hP : va_P (dC, dI) vwCl [(ra 2, .inl (kI, 8, .inl (upd q_told 4 ((q_told 4) + 1)))), (ra 3, .inl (kI, 24, .inl (upd q_kind (12 + (q_told 4)).toNatClampNeg r19))), (ra 4, .inl (kI, 24, .inl (upd q_salt (12 + (q_told 4)).toNatClampNeg r27))), (ra 5, .inl (kI, 24, .inl (upd q_pace (12 + (q_told 4)).toNatClampNeg r40))), (ra 6, .inl (kI, 24, .inl (upd q_mute (12 + (q_told 4)).toNatClampNeg 0))), (ra 7, .inl (kI, 24, .inl (upd q_late (12 + (q_told 4)).toNatClampNeg 0))), (ra 1, .inl (kS, 4, .inr (.inr (.inr (.inr q_kinds))))), (m0, .inr (11, oX11 ra y42)), (ra 13, .inl (kI, 700, .inl q_tape))] H := hPa
                have hD : va_D A [(ra 2, .inl (kI, 8, .inl (upd q_told 4 ((q_told 4) + 1)))), (ra 3, .inl (kI, 24, .inl (upd q_kind (12 + (q_told 4)).toNatClampNeg r19))), (ra 4, .inl (kI, 24, .inl (upd q_salt (12 + (q_told 4)).toNatClampNeg r27))), (ra 5, .inl (kI, 24, .inl (upd q_pace (12 + (q_told 4)).toNatClampNeg r40))), (ra 6, .inl (kI, 24, .inl (upd q_mute (12 + (q_told 4)).toNatClampNeg 0))), (ra 7, .inl (kI, 24, .inl (upd q_late (12 + (q_told 4)).toNatClampNeg 0))), (ra 1, .inl (kS, 4, .inr (.inr (.inr (.inr q_kinds))))), (m0, .inr (11, oX11 ra y42)), (ra 13, .inl (kI, 700, .inl q_tape))] := hDa
                clear hPa hDa
                have hPD9 := cl_s (wc := [(m0, .inr (11, oX11 ra y42)), (ra 2, .inl (kI, 8, .inl (upd q_told 4 ((q_told 4) + 1)))), (ra 3, .inl (kI, 24, .inl (upd q_kind (12 + (q_told 4)).toNatClampNeg r19))), (ra 4, .inl (kI, 24, .inl (upd q_salt (12 + (q_told 4)).toNatClampNeg r27))), (ra 5, .inl (kI, 24, .inl (upd q_pace (12 + (q_told 4)).toNatClampNeg r40))), (ra 6, .inl (kI, 24, .inl (upd q_mute (12 + (q_told 4)).toNatClampNeg 0))), (ra 7, .inl (kI, 24, .inl (upd q_late (12 + (q_told 4)).toNatClampNeg 0))), (ra 13, .inl (kI, 700, .inl q_tape)), (ra 1, .inl (kS, 4, .inr (.inr (.inr (.inr q_kinds)))))]) hP hD [7, 0, 1, 2, 3, 4, 5, 8, 6] rfl (by decide +kernel)
                have hP9 := hPD9.1
                have hD9 := hPD9.2
                exact W.vret hx hb hr (fun t ht hW => ⟨⟨(), rfl, trivial, y42, upd q_told 4 ((q_told 4) + 1), upd q_kind (12 + (q_told 4)).toNatClampNeg r19, upd q_salt (12 + (q_told 4)).toNatClampNeg r27, upd q_pace (12 + (q_told 4)).toNatClampNeg r40, upd q_mute (12 + (q_told 4)).toNatClampNeg 0, upd q_late (12 + (q_told 4)).toNatClampNeg 0, hq43, (fI_u hq_told (k := 4) ((iv_w b71 (by decide) (by decide)))), (fI_u hq_salt (k := (12 + (q_told 4)).toNatClampNeg) (w28.1)), (show (x0 2).toInt ≤ (y42 2).toInt from by omega), (show y42 3 = x0 3 from hq45.trans (hq32.trans (hq10))), (show ∀ j : Nat, (j : Int) < (q_told 1).toInt → (q_from j).toInt < (q_to j).toInt from hLT), (show ∀ j : Nat, (j : Int) < (q_told 5).toInt → (q_from (20 + j)).toInt < (q_to (20 + j)).toInt from hLD), (show RRd tT nN y42 (rtrS tT nN sS (q_told 4)) from it_f (Q := RRd tT nN y42) c1 (hrr70)), fun _ => ⟨rfl, congrArg (upd q_kind ((12 + (q_told 4)).toNatClampNeg)) ((kq_y hwk c21).2 (ok_next (ok_num (ok_next (ok_num (ok_next (rr_ok hrr52 c63))))))), congrArg (upd q_salt ((12 + (q_told 4)).toNatClampNeg)) (hv2 (ok_next (ok_num (ok_next (rr_ok hrr52 c63))))), congrArg (upd q_pace ((12 + (q_told 4)).toNatClampNeg)) (hv3 (ok_next (rr_ok hrr52 c63))), congrArg (upd q_mute ((12 + (q_told 4)).toNatClampNeg)) c56.symm, congrArg (upd q_late ((12 + (q_told 4)).toNatClampNeg)) c61.symm⟩, low_t (by decide), (show y42 1 = x0 1 from hq47.trans (hq34.trans (hq13))), (show y42 10 = x0 10 from hq48.trans (hq35.trans (hq14))), (show y42 21 = x0 21 from hq49.trans (hq36.trans (hq15))), (show y42 25 = x0 25 from hq50.trans (hq37.trans (hq16))), (show y42 23 = x0 23 from hq51.trans (hq38.trans (hq17))), by rw [ht]; exact hP9, hD9⟩, hS.F ht⟩) hS.2.2 dX11_readRouter_178
            · have b72 : iv 1 1 (wS tT 9 (rtr4 tT nN sS)) := iv_neLo c61 b60 ivk_0 (by decide) (by decide)
              refine lv_iconst (v := 1) hx hb dX11_readRouter_135 ic_1 ?_
              refine lv_goto (tgt := 140) hx hb dX11_readRouter_136 rfl ?_
              refine va_iast hx hb hK hP hD hS 5 1 rfl rfl (iv_in b18 (by decide) (by decide)) dX11_readRouter_140 (fun H locs hPa hDa hS => ?_)
              clear hP hD
              have hP : va_P (dC, dI) vwCl [(ra 2, .inl (kI, 8, .inl q_told)), (ra 3, .inl (kI, 24, .inl (upd q_kind (12 + (q_told 4)).toNatClampNeg r19))), (ra 4, .inl (kI, 24, .inl (upd q_salt (12 + (q_told 4)).toNatClampNeg r27))), (ra 5, .inl (kI, 24, .inl (upd q_pace (12 + (q_told 4)).toNatClampNeg r40))), (ra 6, .inl (kI, 24, .inl (upd q_mute (12 + (q_told 4)).toNatClampNeg 0))), (ra 7, .inl (kI, 24, .inl (upd q_late (12 + (q_told 4)).toNatClampNeg 1))), (ra 1, .inl (kS, 4, .inr (.inr (.inr (.inr q_kinds))))), (m0, .inr (11, oX11 ra y42)), (ra 13, .inl (kI, 700, .inl q_tape))] H := hPa
              have hD : va_D A [(ra 2, .inl (kI, 8, .inl q_told)), (ra 3, .inl (kI, 24, .inl (upd q_kind (12 + (q_told 4)).toNatClampNeg r19))), (ra 4, .inl (kI, 24, .inl (upd q_salt (12 + (q_told 4)).toNatClampNeg r27))), (ra 5, .inl (kI, 24, .inl (upd q_pace (12 + (q_told 4)).toNatClampNeg r40))), (ra 6, .inl (kI, 24, .inl (upd q_mute (12 + (q_told 4)).toNatClampNeg 0))), (ra 7, .inl (kI, 24, .inl (upd q_late (12 + (q_told 4)).toNatClampNeg 1))), (ra 1, .inl (kS, 4, .inr (.inr (.inr (.inr q_kinds))))), (m0, .inr (11, oX11 ra y42)), (ra 13, .inl (kI, 700, .inl q_tape))] := hDa
              clear hPa hDa
              refine lv_aload_n hx hb dX11_readRouter_141 rfl (lv_at hl 2 rfl) ?_
              refine va_get (D := (dC, dI)) (ci := 11) (v := .int (y42 8)) (C := RX11) (T := TX11) (N := 61) hx hb hts hin11 hown hK hP 7 rfl rfl 22 (Nat.le_of_ble_eq_true rfl) hw_1 (fun _ h9 => h9) rfl dX11_readRouter_142 ?_
              refine lv_if_ne (tgt := 168) hx hb dX11_readRouter_145 rfl (fun c73 => ?_) (fun c73 => ?_)
              · have b74 : iv 1 5 (y42 8) := iv_neLo c73 (hq43 8 : iv 0 5 (y42 8)) ivk_0 (by decide) (by decide)
                have hrr75 : RRd tT nN y42 (manT tT nN (rtr4 tT nN sS)) := (mq_b hrr52 c73) ▸ hrr52
                refine lv_aload_n hx hb dX11_readRouter_168 rfl (lv_at hl 2 rfl) ?_
                refine va_get (D := (dC, dI)) (ci := 11) (v := .ref (ra 2)) (C := RX11) (T := TX11) (N := 61) hx hb hts hin11 hown hK hP 7 rfl rfl 3 (Nat.le_of_ble_eq_true rfl) hw_0 (fun _ h9 => h9) rfl dX11_readRouter_169 ?_
                refine lv_iconst (v := 4) hx hb dX11_readRouter_172 ic_4 ?_
                refine lv_dup2_11 hx hb dX11_readRouter_173 rfl rfl ?_
                refine va_iald hx hb hK hP 0 1 rfl rfl (vp_in_nI (n := 4) (by decide) (by decide)) dX11_readRouter_174 ?_
                refine W.eq (g2 := F0 m 175 ls [.int (q_told 4), .int 4, .ref (ra 2)]) rfl ?_
                refine lv_iconst (v := 1) hx hb dX11_readRouter_175 ic_1 ?_
                refine lv_iadd hx hb dX11_readRouter_176 ?_
                have b76 : iv 1 12 ((q_told 4) + 1) := iv_add b2 ivk_1 (by decide) (by decide) (by decide) (by decide)
                refine va_iast hx hb hK hP hD hS 0 1 rfl rfl (vp_in_nI (n := 4) (by decide) (by decide)) dX11_readRouter_177 (fun H locs hPa hDa hS => ?_)
                clear hP hD
                have hP : va_P (dC, dI) vwCl [(ra 2, .inl (kI, 8, .inl (upd q_told 4 ((q_told 4) + 1)))), (ra 3, .inl (kI, 24, .inl (upd q_kind (12 + (q_told 4)).toNatClampNeg r19))), (ra 4, .inl (kI, 24, .inl (upd q_salt (12 + (q_told 4)).toNatClampNeg r27))), (ra 5, .inl (kI, 24, .inl (upd q_pace (12 + (q_told 4)).toNatClampNeg r40))), (ra 6, .inl (kI, 24, .inl (upd q_mute (12 + (q_told 4)).toNatClampNeg 0))), (ra 7, .inl (kI, 24, .inl (upd q_late (12 + (q_told 4)).toNatClampNeg 1))), (ra 1, .inl (kS, 4, .inr (.inr (.inr (.inr q_kinds))))), (m0, .inr (11, oX11 ra y42)), (ra 13, .inl (kI, 700, .inl q_tape))] H := hPa
                have hD : va_D A [(ra 2, .inl (kI, 8, .inl (upd q_told 4 ((q_told 4) + 1)))), (ra 3, .inl (kI, 24, .inl (upd q_kind (12 + (q_told 4)).toNatClampNeg r19))), (ra 4, .inl (kI, 24, .inl (upd q_salt (12 + (q_told 4)).toNatClampNeg r27))), (ra 5, .inl (kI, 24, .inl (upd q_pace (12 + (q_told 4)).toNatClampNeg r40))), (ra 6, .inl (kI, 24, .inl (upd q_mute (12 + (q_told 4)).toNatClampNeg 0))), (ra 7, .inl (kI, 24, .inl (upd q_late (12 + (q_told 4)).toNatClampNeg 1))), (ra 1, .inl (kS, 4, .inr (.inr (.inr (.inr q_kinds))))), (m0, .inr (11, oX11 ra y42)), (ra 13, .inl (kI, 700, .inl q_tape))] := hDa
                clear hPa hDa
                have hPD9 := cl_s (wc := [(m0, .inr (11, oX11 ra y42)), (ra 2, .inl (kI, 8, .inl (upd q_told 4 ((q_told 4) + 1)))), (ra 3, .inl (kI, 24, .inl (upd q_kind (12 + (q_told 4)).toNatClampNeg r19))), (ra 4, .inl (kI, 24, .inl (upd q_salt (12 + (q_told 4)).toNatClampNeg r27))), (ra 5, .inl (kI, 24, .inl (upd q_pace (12 + (q_told 4)).toNatClampNeg r40))), (ra 6, .inl (kI, 24, .inl (upd q_mute (12 + (q_told 4)).toNatClampNeg 0))), (ra 7, .inl (kI, 24, .inl (upd q_late (12 + (q_told 4)).toNatClampNeg 1))), (ra 13, .inl (kI, 700, .inl q_tape)), (ra 1, .inl (kS, 4, .inr (.inr (.inr (.inr q_kinds)))))]) hP hD [7, 0, 1, 2, 3, 4, 5, 8, 6] rfl (by decide +kernel)
                have hP9 := hPD9.1
                have hD9 := hPD9.2
                exact W.vret hx hb hr (fun t ht hW => ⟨⟨(), rfl, trivial, y42, upd q_told 4 ((q_told 4) + 1), upd q_kind (12 + (q_told 4)).toNatClampNeg r19, upd q_salt (12 + (q_told 4)).toNatClampNeg r27, upd q_pace (12 + (q_told 4)).toNatClampNeg r40, upd q_mute (12 + (q_told 4)).toNatClampNeg 0, upd q_late (12 + (q_told 4)).toNatClampNeg 1, hq43, (fI_u hq_told (k := 4) ((iv_w b76 (by decide) (by decide)))), (fI_u hq_salt (k := (12 + (q_told 4)).toNatClampNeg) (w28.1)), (show (x0 2).toInt ≤ (y42 2).toInt from by omega), (show y42 3 = x0 3 from hq45.trans (hq32.trans (hq10))), (show ∀ j : Nat, (j : Int) < (q_told 1).toInt → (q_from j).toInt < (q_to j).toInt from hLT), (show ∀ j : Nat, (j : Int) < (q_told 5).toInt → (q_from (20 + j)).toInt < (q_to (20 + j)).toInt from hLD), (show RRd tT nN y42 (rtrS tT nN sS (q_told 4)) from it_f (Q := RRd tT nN y42) c1 (hrr75)), fun w => absurd w c73, low_t (by decide), (show y42 1 = x0 1 from hq47.trans (hq34.trans (hq13))), (show y42 10 = x0 10 from hq48.trans (hq35.trans (hq14))), (show y42 21 = x0 21 from hq49.trans (hq36.trans (hq15))), (show y42 25 = x0 25 from hq50.trans (hq37.trans (hq16))), (show y42 23 = x0 23 from hq51.trans (hq38.trans (hq17))), by rw [ht]; exact hP9, hD9⟩, hS.F ht⟩) hS.2.2 dX11_readRouter_178
              · have b77 : iv 0 0 (y42 8) := iv_eqL c73 ivk_0
                refine lv_aload_n hx hb dX11_readRouter_148 rfl (lv_at hl 2 rfl) ?_
                refine va_get (D := (dC, dI)) (ci := 11) (v := .ref (ra 6)) (C := RX11) (T := TX11) (N := 61) hx hb hts hin11 hown hK hP 7 rfl rfl 7 (Nat.le_of_ble_eq_true rfl) hw_6 (fun _ h9 => h9) rfl dX11_readRouter_149 ?_
                refine lv_iload_n hx hb dX11_readRouter_152 rfl (lv_at hl 1 rfl) ?_
                refine va_iald hx hb hK hP 4 1 rfl rfl (iv_in b18 (by decide) (by decide)) dX11_readRouter_153 ?_
                refine W.eq (g2 := F0 m 154 ls [.int 0]) (by rw [upd_eq]) ?_
                refine lv_aload_n hx hb dX11_readRouter_154 rfl (lv_at hl 2 rfl) ?_
                refine va_get (D := (dC, dI)) (ci := 11) (v := .ref (ra 7)) (C := RX11) (T := TX11) (N := 61) hx hb hts hin11 hown hK hP 7 rfl rfl 8 (Nat.le_of_ble_eq_true rfl) hw_7 (fun _ h9 => h9) rfl dX11_readRouter_155 ?_
                refine lv_iload_n hx hb dX11_readRouter_158 rfl (lv_at hl 1 rfl) ?_
                refine va_iald hx hb hK hP 5 1 rfl rfl (iv_in b18 (by decide) (by decide)) dX11_readRouter_159 ?_
                refine W.eq (g2 := F0 m 160 ls [.int 1, .int 0]) (by rw [upd_eq]) ?_
                refine lv_iadd hx hb dX11_readRouter_160 ?_
                refine lv_topi (fun z78 e79 => ?_)
                obtain rfl : z78 = (1 : Int32) := e79.trans (by decide)
                refine lv_if_le (tgt := 168) hx hb dX11_readRouter_161 rfl (fun c9 => absurd c9 (by decide)) (fun _ => ?_)
                refine lv_aload_n hx hb dX11_readRouter_164 rfl (lv_at hl 2 rfl) ?_
                obtain ⟨hPc, hDc, hFc, hJn⟩ := cl_a (wc := [(m0, .inr (11, oX11 ra y42)), (ra 13, .inl (kI, 700, .inl q_tape))]) (wr := [(ra 2, .inl (kI, 8, .inl q_told)), (ra 3, .inl (kI, 24, .inl (upd q_kind (12 + (q_told 4)).toNatClampNeg r19))), (ra 4, .inl (kI, 24, .inl (upd q_salt (12 + (q_told 4)).toNatClampNeg r27))), (ra 5, .inl (kI, 24, .inl (upd q_pace (12 + (q_told 4)).toNatClampNeg r40))), (ra 6, .inl (kI, 24, .inl (upd q_mute (12 + (q_told 4)).toNatClampNeg 0))), (ra 7, .inl (kI, 24, .inl (upd q_late (12 + (q_told 4)).toNatClampNeg 1))), (ra 1, .inl (kS, 4, .inr (.inr (.inr (.inr q_kinds)))))]) hP hD hS hA [7, 8] [0, 1, 2, 3, 4, 5, 6] rfl rfl (by decide +kernel)
                refine va_callv (va_runV (As := []) (rest := []) ⟨hx, hb, hml, hown, hts⟩ (s11_stepOn l dC dI kB kI kJ kZ kC kS H.size m0 ra y42 q_tape tT nN (nextT tT nN (rtr4 tT nN sS)) (hq43) (hq_tape) (hrr52.2) (stp_of hrr52) (hTQ)) (cwV 0 hts gX11_readRouter_X11_stepOn rfl rfl rfl (by decide +kernel) ⟨Nat.le_of_ble_eq_true rfl, Nat.le_of_ble_eq_true rfl⟩) ⟨fun a U g mk q => by obtain ⟨q0, q1, qP, qE, qD⟩ := q; exact ⟨q0, q1, qP, kE_call qE, qD⟩, va_recv hK hP (ci := 11) (q0 := 7) rfl rfl, fun U hU hW => ⟨rfl, by rw [hU], by rw [hU]; exact hPc, kE_warm hW hE, hDc.weaken (fun _ _ _ _ => trivial)⟩⟩ rfl rfl hl.1 rfl (lv_room (Nat.le_of_ble_eq_true rfl)) dX11_readRouter_165 ⟨Nat.le_of_ble_eq_true rfl, Nat.le_of_ble_eq_true rfl⟩) hS (fun q _ h => hFc q h) hFc (fun u t H locs ht hvm w81 hB hz1 hk1 hS => ?_)
                obtain ⟨y82, hq83, hq84, hq85, hq86, hq87, hq88, hq89, hq90, hq91, hq92, hP1, hD1⟩ := hB
                try dsimp only at w81
                obtain ⟨hPa, hDa⟩ := hJn (w1 := [(m0, .inr (11, oX11 ra y82)), (ra 13, .inl (kI, 700, .inl q_tape))]) hk1 ht hP1 hD1
                clear hP hD hPc hDc hFc hJn hP1 hD1 hk1
                have hP : va_P (dC, dI) vwCl [(ra 2, .inl (kI, 8, .inl q_told)), (ra 3, .inl (kI, 24, .inl (upd q_kind (12 + (q_told 4)).toNatClampNeg r19))), (ra 4, .inl (kI, 24, .inl (upd q_salt (12 + (q_told 4)).toNatClampNeg r27))), (ra 5, .inl (kI, 24, .inl (upd q_pace (12 + (q_told 4)).toNatClampNeg r40))), (ra 6, .inl (kI, 24, .inl (upd q_mute (12 + (q_told 4)).toNatClampNeg 0))), (ra 7, .inl (kI, 24, .inl (upd q_late (12 + (q_told 4)).toNatClampNeg 1))), (ra 1, .inl (kS, 4, .inr (.inr (.inr (.inr q_kinds))))), (m0, .inr (11, oX11 ra y82)), (ra 13, .inl (kI, 700, .inl q_tape))] H := hPa
                have hD : va_D A [(ra 2, .inl (kI, 8, .inl q_told)), (ra 3, .inl (kI, 24, .inl (upd q_kind (12 + (q_told 4)).toNatClampNeg r19))), (ra 4, .inl (kI, 24, .inl (upd q_salt (12 + (q_told 4)).toNatClampNeg r27))), (ra 5, .inl (kI, 24, .inl (upd q_pace (12 + (q_told 4)).toNatClampNeg r40))), (ra 6, .inl (kI, 24, .inl (upd q_mute (12 + (q_told 4)).toNatClampNeg 0))), (ra 7, .inl (kI, 24, .inl (upd q_late (12 + (q_told 4)).toNatClampNeg 1))), (ra 1, .inl (kS, 4, .inr (.inr (.inr (.inr q_kinds))))), (m0, .inr (11, oX11 ra y82)), (ra 13, .inl (kI, 700, .inl q_tape))] := hDa
                clear hPa hDa
                refine W.widen (k := 0) (n := 0) (Nat.le_of_ble_eq_true rfl) (Nat.le_of_ble_eq_true rfl) ?_
                have hrr93 : RRd tT nN y82 (manT tT nN (rtr4 tT nN sS)) := (mq_s hrr52 c73 (Or.inr c61)) ▸ hq87
                refine lv_aload_n hx hb dX11_readRouter_168 rfl (lv_at hl 2 rfl) ?_
                refine va_get (D := (dC, dI)) (ci := 11) (v := .ref (ra 2)) (C := RX11) (T := TX11) (N := 61) hx hb hts hin11 hown hK hP 7 rfl rfl 3 (Nat.le_of_ble_eq_true rfl) hw_0 (fun _ h9 => h9) rfl dX11_readRouter_169 ?_
                refine lv_iconst (v := 4) hx hb dX11_readRouter_172 ic_4 ?_
                refine lv_dup2_11 hx hb dX11_readRouter_173 rfl rfl ?_
                refine va_iald hx hb hK hP 0 1 rfl rfl (vp_in_nI (n := 4) (by decide) (by decide)) dX11_readRouter_174 ?_
                refine W.eq (g2 := F0 m 175 ls [.int (q_told 4), .int 4, .ref (ra 2)]) rfl ?_
                refine lv_iconst (v := 1) hx hb dX11_readRouter_175 ic_1 ?_
                refine lv_iadd hx hb dX11_readRouter_176 ?_
                have b94 : iv 1 12 ((q_told 4) + 1) := iv_add b2 ivk_1 (by decide) (by decide) (by decide) (by decide)
                refine va_iast hx hb hK hP hD hS 0 1 rfl rfl (vp_in_nI (n := 4) (by decide) (by decide)) dX11_readRouter_177 (fun H locs hPa hDa hS => ?_)
                clear hP hD
                have hP : va_P (dC, dI) vwCl [(ra 2, .inl (kI, 8, .inl (upd q_told 4 ((q_told 4) + 1)))), (ra 3, .inl (kI, 24, .inl (upd q_kind (12 + (q_told 4)).toNatClampNeg r19))), (ra 4, .inl (kI, 24, .inl (upd q_salt (12 + (q_told 4)).toNatClampNeg r27))), (ra 5, .inl (kI, 24, .inl (upd q_pace (12 + (q_told 4)).toNatClampNeg r40))), (ra 6, .inl (kI, 24, .inl (upd q_mute (12 + (q_told 4)).toNatClampNeg 0))), (ra 7, .inl (kI, 24, .inl (upd q_late (12 + (q_told 4)).toNatClampNeg 1))), (ra 1, .inl (kS, 4, .inr (.inr (.inr (.inr q_kinds))))), (m0, .inr (11, oX11 ra y82)), (ra 13, .inl (kI, 700, .inl q_tape))] H := hPa
                have hD : va_D A [(ra 2, .inl (kI, 8, .inl (upd q_told 4 ((q_told 4) + 1)))), (ra 3, .inl (kI, 24, .inl (upd q_kind (12 + (q_told 4)).toNatClampNeg r19))), (ra 4, .inl (kI, 24, .inl (upd q_salt (12 + (q_told 4)).toNatClampNeg r27))), (ra 5, .inl (kI, 24, .inl (upd q_pace (12 + (q_told 4)).toNatClampNeg r40))), (ra 6, .inl (kI, 24, .inl (upd q_mute (12 + (q_told 4)).toNatClampNeg 0))), (ra 7, .inl (kI, 24, .inl (upd q_late (12 + (q_told 4)).toNatClampNeg 1))), (ra 1, .inl (kS, 4, .inr (.inr (.inr (.inr q_kinds))))), (m0, .inr (11, oX11 ra y82)), (ra 13, .inl (kI, 700, .inl q_tape))] := hDa
                clear hPa hDa
                have hPD9 := cl_s (wc := [(m0, .inr (11, oX11 ra y82)), (ra 2, .inl (kI, 8, .inl (upd q_told 4 ((q_told 4) + 1)))), (ra 3, .inl (kI, 24, .inl (upd q_kind (12 + (q_told 4)).toNatClampNeg r19))), (ra 4, .inl (kI, 24, .inl (upd q_salt (12 + (q_told 4)).toNatClampNeg r27))), (ra 5, .inl (kI, 24, .inl (upd q_pace (12 + (q_told 4)).toNatClampNeg r40))), (ra 6, .inl (kI, 24, .inl (upd q_mute (12 + (q_told 4)).toNatClampNeg 0))), (ra 7, .inl (kI, 24, .inl (upd q_late (12 + (q_told 4)).toNatClampNeg 1))), (ra 13, .inl (kI, 700, .inl q_tape)), (ra 1, .inl (kS, 4, .inr (.inr (.inr (.inr q_kinds)))))]) hP hD [7, 0, 1, 2, 3, 4, 5, 8, 6] rfl (by decide +kernel)
                have hP9 := hPD9.1
                have hD9 := hPD9.2
                exact W.vret hx hb hr (fun t ht hW => ⟨⟨(), rfl, trivial, y82, upd q_told 4 ((q_told 4) + 1), upd q_kind (12 + (q_told 4)).toNatClampNeg r19, upd q_salt (12 + (q_told 4)).toNatClampNeg r27, upd q_pace (12 + (q_told 4)).toNatClampNeg r40, upd q_mute (12 + (q_told 4)).toNatClampNeg 0, upd q_late (12 + (q_told 4)).toNatClampNeg 1, hq83, (fI_u hq_told (k := 4) ((iv_w b94 (by decide) (by decide)))), (fI_u hq_salt (k := (12 + (q_told 4)).toNatClampNeg) (w28.1)), (show (x0 2).toInt ≤ (y82 2).toInt from by omega), (show y82 3 = x0 3 from hq85.trans (hq45.trans (hq32.trans (hq10)))), (show ∀ j : Nat, (j : Int) < (q_told 1).toInt → (q_from j).toInt < (q_to j).toInt from hLT), (show ∀ j : Nat, (j : Int) < (q_told 5).toInt → (q_from (20 + j)).toInt < (q_to (20 + j)).toInt from hLD), (show RRd tT nN y82 (rtrS tT nN sS (q_told 4)) from it_f (Q := RRd tT nN y82) c1 (hrr93)), fun _ => ⟨rfl, congrArg (upd q_kind ((12 + (q_told 4)).toNatClampNeg)) ((kq_y hwk c21).2 (ok_next (ok_num (ok_next (ok_num (ok_next (rr_ok hrr52 c73))))))), congrArg (upd q_salt ((12 + (q_told 4)).toNatClampNeg)) (hv2 (ok_next (ok_num (ok_next (rr_ok hrr52 c73))))), congrArg (upd q_pace ((12 + (q_told 4)).toNatClampNeg)) (hv3 (ok_next (rr_ok hrr52 c73))), congrArg (upd q_mute ((12 + (q_told 4)).toNatClampNeg)) c56.symm, congrArg (upd q_late ((12 + (q_told 4)).toNatClampNeg)) (wS_1 c61)⟩, low_t (by decide), (show y82 1 = x0 1 from hq88.trans (hq47.trans (hq34.trans (hq13)))), (show y82 10 = x0 10 from hq89.trans (hq48.trans (hq35.trans (hq14)))), (show y82 21 = x0 21 from hq90.trans (hq49.trans (hq36.trans (hq15)))), (show y82 25 = x0 25 from hq91.trans (hq50.trans (hq37.trans (hq16)))), (show y82 23 = x0 23 from hq92.trans (hq51.trans (hq38.trans (hq17)))), by rw [ht]; exact hP9, hD9⟩, hS.F ht⟩) hS.2.2 dX11_readRouter_178
          · have b95 : iv 1 1 (wS tT 8 (rtr4 tT nN sS)) := iv_neLo c56 b55 ivk_0 (by decide) (by decide)
            refine lv_iconst (v := 1) hx hb dX11_readRouter_115 ic_1 ?_
            refine lv_goto (tgt := 120) hx hb dX11_readRouter_116 rfl ?_
            refine va_iast hx hb hK hP hD hS 4 1 rfl rfl (iv_in b18 (by decide) (by decide)) dX11_readRouter_120 (fun H locs hPa hDa hS => ?_)
            clear hP hD
            have hP : va_P (dC, dI) vwCl [(ra 2, .inl (kI, 8, .inl q_told)), (ra 3, .inl (kI, 24, .inl (upd q_kind (12 + (q_told 4)).toNatClampNeg r19))), (ra 4, .inl (kI, 24, .inl (upd q_salt (12 + (q_told 4)).toNatClampNeg r27))), (ra 5, .inl (kI, 24, .inl (upd q_pace (12 + (q_told 4)).toNatClampNeg r40))), (ra 6, .inl (kI, 24, .inl (upd q_mute (12 + (q_told 4)).toNatClampNeg 1))), (ra 7, .inl (kI, 24, .inl q_late)), (ra 1, .inl (kS, 4, .inr (.inr (.inr (.inr q_kinds))))), (m0, .inr (11, oX11 ra y42)), (ra 13, .inl (kI, 700, .inl q_tape))] H := hPa
            have hD : va_D A [(ra 2, .inl (kI, 8, .inl q_told)), (ra 3, .inl (kI, 24, .inl (upd q_kind (12 + (q_told 4)).toNatClampNeg r19))), (ra 4, .inl (kI, 24, .inl (upd q_salt (12 + (q_told 4)).toNatClampNeg r27))), (ra 5, .inl (kI, 24, .inl (upd q_pace (12 + (q_told 4)).toNatClampNeg r40))), (ra 6, .inl (kI, 24, .inl (upd q_mute (12 + (q_told 4)).toNatClampNeg 1))), (ra 7, .inl (kI, 24, .inl q_late)), (ra 1, .inl (kS, 4, .inr (.inr (.inr (.inr q_kinds))))), (m0, .inr (11, oX11 ra y42)), (ra 13, .inl (kI, 700, .inl q_tape))] := hDa
            clear hPa hDa
            refine lv_aload_n hx hb dX11_readRouter_121 rfl (lv_at hl 2 rfl) ?_
            refine va_get (D := (dC, dI)) (ci := 11) (v := .ref (ra 7)) (C := RX11) (T := TX11) (N := 61) hx hb hts hin11 hown hK hP 7 rfl rfl 8 (Nat.le_of_ble_eq_true rfl) hw_7 (fun _ h9 => h9) rfl dX11_readRouter_122 ?_
            refine lv_iload_n hx hb dX11_readRouter_125 rfl (lv_at hl 1 rfl) ?_
            refine lv_aload_n hx hb dX11_readRouter_126 rfl (lv_at hl 2 rfl) ?_
            refine va_ldcS hx hb hown hKL.2.2.2.2.2.2.2.2.2.2.2.2.2.2.2.2.2.2.2.2.2.2 dX11_readRouter_127 ?_
            obtain ⟨hPc, hDc, hFc, hJn⟩ := cl_a (wc := [(m0, .inr (11, oX11 ra y42)), (ra 13, .inl (kI, 700, .inl q_tape))]) (wr := [(ra 2, .inl (kI, 8, .inl q_told)), (ra 3, .inl (kI, 24, .inl (upd q_kind (12 + (q_told 4)).toNatClampNeg r19))), (ra 4, .inl (kI, 24, .inl (upd q_salt (12 + (q_told 4)).toNatClampNeg r27))), (ra 5, .inl (kI, 24, .inl (upd q_pace (12 + (q_told 4)).toNatClampNeg r40))), (ra 6, .inl (kI, 24, .inl (upd q_mute (12 + (q_told 4)).toNatClampNeg 1))), (ra 7, .inl (kI, 24, .inl q_late)), (ra 1, .inl (kS, 4, .inr (.inr (.inr (.inr q_kinds)))))]) hP hD hS hA [7, 8] [0, 1, 2, 3, 4, 5, 6] rfl rfl (by decide +kernel)
            refine va_calli (va_runV (As := [.ref (adK 9)]) (rest := [.int (12 + (q_told 4)), .ref (ra 7)]) ⟨hx, hb, hml, hown, hts⟩ (s11_is l dC dI kB kI kJ kZ kC kS H.size adK adV m0 ra y42 q_tape 9 tT nN (rtr4 tT nN sS) (hq43) (hq_tape) ((by decide)) (hrr52) (hTQ)) (cwV 1 hts gX11_readRouter_X11_is rfl rfl rfl (by decide +kernel) ⟨Nat.le_of_ble_eq_true rfl, Nat.le_of_ble_eq_true rfl⟩) ⟨fun a U g mk q => by obtain ⟨q0, q1, qP, qE, qD, qL⟩ := q; exact ⟨q0, q1, qP, kE_call qE, qD, kL_call qL⟩, va_recv hK hP (ci := 11) (q0 := 7) rfl rfl, fun U hU hW => ⟨rfl, by rw [hU], by rw [hU]; exact hPc, kE_warm hW hE, hDc.weaken (fun _ _ _ _ => trivial), kL_at hKL hS hFc hW hU⟩⟩ rfl rfl hl.1 rfl (lv_room (Nat.le_of_ble_eq_true rfl)) dX11_readRouter_129 ⟨Nat.le_of_ble_eq_true rfl, Nat.le_of_ble_eq_true rfl⟩) hS (fun q _ h => hFc q h) hFc (fun r96 u t H locs ht hvm w97 hB hz1 hk1 hS => ?_)
            obtain ⟨hP1, hD1⟩ := hB
            try dsimp only at w97
            obtain ⟨hPa, hDa⟩ := hJn (w1 := [(m0, .inr (11, oX11 ra y42)), (ra 13, .inl (kI, 700, .inl q_tape))]) hk1 ht hP1 hD1
            clear hP hD hPc hDc hFc hJn hP1 hD1 hk1
            have hP : va_P (dC, dI) vwCl [(ra 2, .inl (kI, 8, .inl q_told)), (ra 3, .inl (kI, 24, .inl (upd q_kind (12 + (q_told 4)).toNatClampNeg r19))), (ra 4, .inl (kI, 24, .inl (upd q_salt (12 + (q_told 4)).toNatClampNeg r27))), (ra 5, .inl (kI, 24, .inl (upd q_pace (12 + (q_told 4)).toNatClampNeg r40))), (ra 6, .inl (kI, 24, .inl (upd q_mute (12 + (q_told 4)).toNatClampNeg 1))), (ra 7, .inl (kI, 24, .inl q_late)), (ra 1, .inl (kS, 4, .inr (.inr (.inr (.inr q_kinds))))), (m0, .inr (11, oX11 ra y42)), (ra 13, .inl (kI, 700, .inl q_tape))] H := hPa
            have hD : va_D A [(ra 2, .inl (kI, 8, .inl q_told)), (ra 3, .inl (kI, 24, .inl (upd q_kind (12 + (q_told 4)).toNatClampNeg r19))), (ra 4, .inl (kI, 24, .inl (upd q_salt (12 + (q_told 4)).toNatClampNeg r27))), (ra 5, .inl (kI, 24, .inl (upd q_pace (12 + (q_told 4)).toNatClampNeg r40))), (ra 6, .inl (kI, 24, .inl (upd q_mute (12 + (q_told 4)).toNatClampNeg 1))), (ra 7, .inl (kI, 24, .inl q_late)), (ra 1, .inl (kS, 4, .inr (.inr (.inr (.inr q_kinds))))), (m0, .inr (11, oX11 ra y42)), (ra 13, .inl (kI, 700, .inl q_tape))] := hDa
            clear hPa hDa
            refine W.widen (k := 0) (n := 0) (Nat.le_of_ble_eq_true rfl) (Nat.le_of_ble_eq_true rfl) ?_
            obtain ⟨w97, b98⟩ := w97
            subst w97
            refine lv_if_eq (tgt := 139) hx hb dX11_readRouter_132 rfl (fun c99 => ?_) (fun c99 => ?_)
            · have b100 : iv 0 0 (wS tT 9 (rtr4 tT nN sS)) := iv_eqL c99 ivk_0
              refine lv_iconst (v := 0) hx hb dX11_readRouter_139 ic_0 ?_
              refine va_iast hx hb hK hP hD hS 5 1 rfl rfl (iv_in b18 (by decide) (by decide)) dX11_readRouter_140 (fun H locs hPa hDa hS => ?_)
              clear hP hD
              have hP : va_P (dC, dI) vwCl [(ra 2, .inl (kI, 8, .inl q_told)), (ra 3, .inl (kI, 24, .inl (upd q_kind (12 + (q_told 4)).toNatClampNeg r19))), (ra 4, .inl (kI, 24, .inl (upd q_salt (12 + (q_told 4)).toNatClampNeg r27))), (ra 5, .inl (kI, 24, .inl (upd q_pace (12 + (q_told 4)).toNatClampNeg r40))), (ra 6, .inl (kI, 24, .inl (upd q_mute (12 + (q_told 4)).toNatClampNeg 1))), (ra 7, .inl (kI, 24, .inl (upd q_late (12 + (q_told 4)).toNatClampNeg 0))), (ra 1, .inl (kS, 4, .inr (.inr (.inr (.inr q_kinds))))), (m0, .inr (11, oX11 ra y42)), (ra 13, .inl (kI, 700, .inl q_tape))] H := hPa
              have hD : va_D A [(ra 2, .inl (kI, 8, .inl q_told)), (ra 3, .inl (kI, 24, .inl (upd q_kind (12 + (q_told 4)).toNatClampNeg r19))), (ra 4, .inl (kI, 24, .inl (upd q_salt (12 + (q_told 4)).toNatClampNeg r27))), (ra 5, .inl (kI, 24, .inl (upd q_pace (12 + (q_told 4)).toNatClampNeg r40))), (ra 6, .inl (kI, 24, .inl (upd q_mute (12 + (q_told 4)).toNatClampNeg 1))), (ra 7, .inl (kI, 24, .inl (upd q_late (12 + (q_told 4)).toNatClampNeg 0))), (ra 1, .inl (kS, 4, .inr (.inr (.inr (.inr q_kinds))))), (m0, .inr (11, oX11 ra y42)), (ra 13, .inl (kI, 700, .inl q_tape))] := hDa
              clear hPa hDa
              refine lv_aload_n hx hb dX11_readRouter_141 rfl (lv_at hl 2 rfl) ?_
              refine va_get (D := (dC, dI)) (ci := 11) (v := .int (y42 8)) (C := RX11) (T := TX11) (N := 61) hx hb hts hin11 hown hK hP 7 rfl rfl 22 (Nat.le_of_ble_eq_true rfl) hw_1 (fun _ h9 => h9) rfl dX11_readRouter_142 ?_
              refine lv_if_ne (tgt := 168) hx hb dX11_readRouter_145 rfl (fun c101 => ?_) (fun c101 => ?_)
              · have b102 : iv 1 5 (y42 8) := iv_neLo c101 (hq43 8 : iv 0 5 (y42 8)) ivk_0 (by decide) (by decide)
                have hrr103 : RRd tT nN y42 (manT tT nN (rtr4 tT nN sS)) := (mq_b hrr52 c101) ▸ hrr52
                refine lv_aload_n hx hb dX11_readRouter_168 rfl (lv_at hl 2 rfl) ?_
                refine va_get (D := (dC, dI)) (ci := 11) (v := .ref (ra 2)) (C := RX11) (T := TX11) (N := 61) hx hb hts hin11 hown hK hP 7 rfl rfl 3 (Nat.le_of_ble_eq_true rfl) hw_0 (fun _ h9 => h9) rfl dX11_readRouter_169 ?_
                refine lv_iconst (v := 4) hx hb dX11_readRouter_172 ic_4 ?_
                refine lv_dup2_11 hx hb dX11_readRouter_173 rfl rfl ?_
                refine va_iald hx hb hK hP 0 1 rfl rfl (vp_in_nI (n := 4) (by decide) (by decide)) dX11_readRouter_174 ?_
                refine W.eq (g2 := F0 m 175 ls [.int (q_told 4), .int 4, .ref (ra 2)]) rfl ?_
                refine lv_iconst (v := 1) hx hb dX11_readRouter_175 ic_1 ?_
                refine lv_iadd hx hb dX11_readRouter_176 ?_
                have b104 : iv 1 12 ((q_told 4) + 1) := iv_add b2 ivk_1 (by decide) (by decide) (by decide) (by decide)
                refine va_iast hx hb hK hP hD hS 0 1 rfl rfl (vp_in_nI (n := 4) (by decide) (by decide)) dX11_readRouter_177 (fun H locs hPa hDa hS => ?_)
                clear hP hD
                have hP : va_P (dC, dI) vwCl [(ra 2, .inl (kI, 8, .inl (upd q_told 4 ((q_told 4) + 1)))), (ra 3, .inl (kI, 24, .inl (upd q_kind (12 + (q_told 4)).toNatClampNeg r19))), (ra 4, .inl (kI, 24, .inl (upd q_salt (12 + (q_told 4)).toNatClampNeg r27))), (ra 5, .inl (kI, 24, .inl (upd q_pace (12 + (q_told 4)).toNatClampNeg r40))), (ra 6, .inl (kI, 24, .inl (upd q_mute (12 + (q_told 4)).toNatClampNeg 1))), (ra 7, .inl (kI, 24, .inl (upd q_late (12 + (q_told 4)).toNatClampNeg 0))), (ra 1, .inl (kS, 4, .inr (.inr (.inr (.inr q_kinds))))), (m0, .inr (11, oX11 ra y42)), (ra 13, .inl (kI, 700, .inl q_tape))] H := hPa
                have hD : va_D A [(ra 2, .inl (kI, 8, .inl (upd q_told 4 ((q_told 4) + 1)))), (ra 3, .inl (kI, 24, .inl (upd q_kind (12 + (q_told 4)).toNatClampNeg r19))), (ra 4, .inl (kI, 24, .inl (upd q_salt (12 + (q_told 4)).toNatClampNeg r27))), (ra 5, .inl (kI, 24, .inl (upd q_pace (12 + (q_told 4)).toNatClampNeg r40))), (ra 6, .inl (kI, 24, .inl (upd q_mute (12 + (q_told 4)).toNatClampNeg 1))), (ra 7, .inl (kI, 24, .inl (upd q_late (12 + (q_told 4)).toNatClampNeg 0))), (ra 1, .inl (kS, 4, .inr (.inr (.inr (.inr q_kinds))))), (m0, .inr (11, oX11 ra y42)), (ra 13, .inl (kI, 700, .inl q_tape))] := hDa
                clear hPa hDa
                have hPD9 := cl_s (wc := [(m0, .inr (11, oX11 ra y42)), (ra 2, .inl (kI, 8, .inl (upd q_told 4 ((q_told 4) + 1)))), (ra 3, .inl (kI, 24, .inl (upd q_kind (12 + (q_told 4)).toNatClampNeg r19))), (ra 4, .inl (kI, 24, .inl (upd q_salt (12 + (q_told 4)).toNatClampNeg r27))), (ra 5, .inl (kI, 24, .inl (upd q_pace (12 + (q_told 4)).toNatClampNeg r40))), (ra 6, .inl (kI, 24, .inl (upd q_mute (12 + (q_told 4)).toNatClampNeg 1))), (ra 7, .inl (kI, 24, .inl (upd q_late (12 + (q_told 4)).toNatClampNeg 0))), (ra 13, .inl (kI, 700, .inl q_tape)), (ra 1, .inl (kS, 4, .inr (.inr (.inr (.inr q_kinds)))))]) hP hD [7, 0, 1, 2, 3, 4, 5, 8, 6] rfl (by decide +kernel)
                have hP9 := hPD9.1
                have hD9 := hPD9.2
                exact W.vret hx hb hr (fun t ht hW => ⟨⟨(), rfl, trivial, y42, upd q_told 4 ((q_told 4) + 1), upd q_kind (12 + (q_told 4)).toNatClampNeg r19, upd q_salt (12 + (q_told 4)).toNatClampNeg r27, upd q_pace (12 + (q_told 4)).toNatClampNeg r40, upd q_mute (12 + (q_told 4)).toNatClampNeg 1, upd q_late (12 + (q_told 4)).toNatClampNeg 0, hq43, (fI_u hq_told (k := 4) ((iv_w b104 (by decide) (by decide)))), (fI_u hq_salt (k := (12 + (q_told 4)).toNatClampNeg) (w28.1)), (show (x0 2).toInt ≤ (y42 2).toInt from by omega), (show y42 3 = x0 3 from hq45.trans (hq32.trans (hq10))), (show ∀ j : Nat, (j : Int) < (q_told 1).toInt → (q_from j).toInt < (q_to j).toInt from hLT), (show ∀ j : Nat, (j : Int) < (q_told 5).toInt → (q_from (20 + j)).toInt < (q_to (20 + j)).toInt from hLD), (show RRd tT nN y42 (rtrS tT nN sS (q_told 4)) from it_f (Q := RRd tT nN y42) c1 (hrr103)), fun w => absurd w c101, low_t (by decide), (show y42 1 = x0 1 from hq47.trans (hq34.trans (hq13))), (show y42 10 = x0 10 from hq48.trans (hq35.trans (hq14))), (show y42 21 = x0 21 from hq49.trans (hq36.trans (hq15))), (show y42 25 = x0 25 from hq50.trans (hq37.trans (hq16))), (show y42 23 = x0 23 from hq51.trans (hq38.trans (hq17))), by rw [ht]; exact hP9, hD9⟩, hS.F ht⟩) hS.2.2 dX11_readRouter_178
              · have b105 : iv 0 0 (y42 8) := iv_eqL c101 ivk_0
                refine lv_aload_n hx hb dX11_readRouter_148 rfl (lv_at hl 2 rfl) ?_
                refine va_get (D := (dC, dI)) (ci := 11) (v := .ref (ra 6)) (C := RX11) (T := TX11) (N := 61) hx hb hts hin11 hown hK hP 7 rfl rfl 7 (Nat.le_of_ble_eq_true rfl) hw_6 (fun _ h9 => h9) rfl dX11_readRouter_149 ?_
                refine lv_iload_n hx hb dX11_readRouter_152 rfl (lv_at hl 1 rfl) ?_
                refine va_iald hx hb hK hP 4 1 rfl rfl (iv_in b18 (by decide) (by decide)) dX11_readRouter_153 ?_
                refine W.eq (g2 := F0 m 154 ls [.int 1]) (by rw [upd_eq]) ?_
                refine lv_aload_n hx hb dX11_readRouter_154 rfl (lv_at hl 2 rfl) ?_
                refine va_get (D := (dC, dI)) (ci := 11) (v := .ref (ra 7)) (C := RX11) (T := TX11) (N := 61) hx hb hts hin11 hown hK hP 7 rfl rfl 8 (Nat.le_of_ble_eq_true rfl) hw_7 (fun _ h9 => h9) rfl dX11_readRouter_155 ?_
                refine lv_iload_n hx hb dX11_readRouter_158 rfl (lv_at hl 1 rfl) ?_
                refine va_iald hx hb hK hP 5 1 rfl rfl (iv_in b18 (by decide) (by decide)) dX11_readRouter_159 ?_
                refine W.eq (g2 := F0 m 160 ls [.int 0, .int 1]) (by rw [upd_eq]) ?_
                refine lv_iadd hx hb dX11_readRouter_160 ?_
                refine lv_topi (fun z106 e107 => ?_)
                obtain rfl : z106 = (1 : Int32) := e107.trans (by decide)
                refine lv_if_le (tgt := 168) hx hb dX11_readRouter_161 rfl (fun c9 => absurd c9 (by decide)) (fun _ => ?_)
                refine lv_aload_n hx hb dX11_readRouter_164 rfl (lv_at hl 2 rfl) ?_
                obtain ⟨hPc, hDc, hFc, hJn⟩ := cl_a (wc := [(m0, .inr (11, oX11 ra y42)), (ra 13, .inl (kI, 700, .inl q_tape))]) (wr := [(ra 2, .inl (kI, 8, .inl q_told)), (ra 3, .inl (kI, 24, .inl (upd q_kind (12 + (q_told 4)).toNatClampNeg r19))), (ra 4, .inl (kI, 24, .inl (upd q_salt (12 + (q_told 4)).toNatClampNeg r27))), (ra 5, .inl (kI, 24, .inl (upd q_pace (12 + (q_told 4)).toNatClampNeg r40))), (ra 6, .inl (kI, 24, .inl (upd q_mute (12 + (q_told 4)).toNatClampNeg 1))), (ra 7, .inl (kI, 24, .inl (upd q_late (12 + (q_told 4)).toNatClampNeg 0))), (ra 1, .inl (kS, 4, .inr (.inr (.inr (.inr q_kinds)))))]) hP hD hS hA [7, 8] [0, 1, 2, 3, 4, 5, 6] rfl rfl (by decide +kernel)
                refine va_callv (va_runV (As := []) (rest := []) ⟨hx, hb, hml, hown, hts⟩ (s11_stepOn l dC dI kB kI kJ kZ kC kS H.size m0 ra y42 q_tape tT nN (nextT tT nN (rtr4 tT nN sS)) (hq43) (hq_tape) (hrr52.2) (stp_of hrr52) (hTQ)) (cwV 0 hts gX11_readRouter_X11_stepOn rfl rfl rfl (by decide +kernel) ⟨Nat.le_of_ble_eq_true rfl, Nat.le_of_ble_eq_true rfl⟩) ⟨fun a U g mk q => by obtain ⟨q0, q1, qP, qE, qD⟩ := q; exact ⟨q0, q1, qP, kE_call qE, qD⟩, va_recv hK hP (ci := 11) (q0 := 7) rfl rfl, fun U hU hW => ⟨rfl, by rw [hU], by rw [hU]; exact hPc, kE_warm hW hE, hDc.weaken (fun _ _ _ _ => trivial)⟩⟩ rfl rfl hl.1 rfl (lv_room (Nat.le_of_ble_eq_true rfl)) dX11_readRouter_165 ⟨Nat.le_of_ble_eq_true rfl, Nat.le_of_ble_eq_true rfl⟩) hS (fun q _ h => hFc q h) hFc (fun u t H locs ht hvm w109 hB hz1 hk1 hS => ?_)
                obtain ⟨y110, hq111, hq112, hq113, hq114, hq115, hq116, hq117, hq118, hq119, hq120, hP1, hD1⟩ := hB
                try dsimp only at w109
                obtain ⟨hPa, hDa⟩ := hJn (w1 := [(m0, .inr (11, oX11 ra y110)), (ra 13, .inl (kI, 700, .inl q_tape))]) hk1 ht hP1 hD1
                clear hP hD hPc hDc hFc hJn hP1 hD1 hk1
                have hP : va_P (dC, dI) vwCl [(ra 2, .inl (kI, 8, .inl q_told)), (ra 3, .inl (kI, 24, .inl (upd q_kind (12 + (q_told 4)).toNatClampNeg r19))), (ra 4, .inl (kI, 24, .inl (upd q_salt (12 + (q_told 4)).toNatClampNeg r27))), (ra 5, .inl (kI, 24, .inl (upd q_pace (12 + (q_told 4)).toNatClampNeg r40))), (ra 6, .inl (kI, 24, .inl (upd q_mute (12 + (q_told 4)).toNatClampNeg 1))), (ra 7, .inl (kI, 24, .inl (upd q_late (12 + (q_told 4)).toNatClampNeg 0))), (ra 1, .inl (kS, 4, .inr (.inr (.inr (.inr q_kinds))))), (m0, .inr (11, oX11 ra y110)), (ra 13, .inl (kI, 700, .inl q_tape))] H := hPa
                have hD : va_D A [(ra 2, .inl (kI, 8, .inl q_told)), (ra 3, .inl (kI, 24, .inl (upd q_kind (12 + (q_told 4)).toNatClampNeg r19))), (ra 4, .inl (kI, 24, .inl (upd q_salt (12 + (q_told 4)).toNatClampNeg r27))), (ra 5, .inl (kI, 24, .inl (upd q_pace (12 + (q_told 4)).toNatClampNeg r40))), (ra 6, .inl (kI, 24, .inl (upd q_mute (12 + (q_told 4)).toNatClampNeg 1))), (ra 7, .inl (kI, 24, .inl (upd q_late (12 + (q_told 4)).toNatClampNeg 0))), (ra 1, .inl (kS, 4, .inr (.inr (.inr (.inr q_kinds))))), (m0, .inr (11, oX11 ra y110)), (ra 13, .inl (kI, 700, .inl q_tape))] := hDa
                clear hPa hDa
                refine W.widen (k := 0) (n := 0) (Nat.le_of_ble_eq_true rfl) (Nat.le_of_ble_eq_true rfl) ?_
                have hrr121 : RRd tT nN y110 (manT tT nN (rtr4 tT nN sS)) := (mq_s hrr52 c101 (Or.inl c56)) ▸ hq115
                refine lv_aload_n hx hb dX11_readRouter_168 rfl (lv_at hl 2 rfl) ?_
                refine va_get (D := (dC, dI)) (ci := 11) (v := .ref (ra 2)) (C := RX11) (T := TX11) (N := 61) hx hb hts hin11 hown hK hP 7 rfl rfl 3 (Nat.le_of_ble_eq_true rfl) hw_0 (fun _ h9 => h9) rfl dX11_readRouter_169 ?_
                refine lv_iconst (v := 4) hx hb dX11_readRouter_172 ic_4 ?_
                refine lv_dup2_11 hx hb dX11_readRouter_173 rfl rfl ?_
                refine va_iald hx hb hK hP 0 1 rfl rfl (vp_in_nI (n := 4) (by decide) (by decide)) dX11_readRouter_174 ?_
                refine W.eq (g2 := F0 m 175 ls [.int (q_told 4), .int 4, .ref (ra 2)]) rfl ?_
                refine lv_iconst (v := 1) hx hb dX11_readRouter_175 ic_1 ?_
                refine lv_iadd hx hb dX11_readRouter_176 ?_
                have b122 : iv 1 12 ((q_told 4) + 1) := iv_add b2 ivk_1 (by decide) (by decide) (by decide) (by decide)
                refine va_iast hx hb hK hP hD hS 0 1 rfl rfl (vp_in_nI (n := 4) (by decide) (by decide)) dX11_readRouter_177 (fun H locs hPa hDa hS => ?_)
                clear hP hD
                have hP : va_P (dC, dI) vwCl [(ra 2, .inl (kI, 8, .inl (upd q_told 4 ((q_told 4) + 1)))), (ra 3, .inl (kI, 24, .inl (upd q_kind (12 + (q_told 4)).toNatClampNeg r19))), (ra 4, .inl (kI, 24, .inl (upd q_salt (12 + (q_told 4)).toNatClampNeg r27))), (ra 5, .inl (kI, 24, .inl (upd q_pace (12 + (q_told 4)).toNatClampNeg r40))), (ra 6, .inl (kI, 24, .inl (upd q_mute (12 + (q_told 4)).toNatClampNeg 1))), (ra 7, .inl (kI, 24, .inl (upd q_late (12 + (q_told 4)).toNatClampNeg 0))), (ra 1, .inl (kS, 4, .inr (.inr (.inr (.inr q_kinds))))), (m0, .inr (11, oX11 ra y110)), (ra 13, .inl (kI, 700, .inl q_tape))] H := hPa
                have hD : va_D A [(ra 2, .inl (kI, 8, .inl (upd q_told 4 ((q_told 4) + 1)))), (ra 3, .inl (kI, 24, .inl (upd q_kind (12 + (q_told 4)).toNatClampNeg r19))), (ra 4, .inl (kI, 24, .inl (upd q_salt (12 + (q_told 4)).toNatClampNeg r27))), (ra 5, .inl (kI, 24, .inl (upd q_pace (12 + (q_told 4)).toNatClampNeg r40))), (ra 6, .inl (kI, 24, .inl (upd q_mute (12 + (q_told 4)).toNatClampNeg 1))), (ra 7, .inl (kI, 24, .inl (upd q_late (12 + (q_told 4)).toNatClampNeg 0))), (ra 1, .inl (kS, 4, .inr (.inr (.inr (.inr q_kinds))))), (m0, .inr (11, oX11 ra y110)), (ra 13, .inl (kI, 700, .inl q_tape))] := hDa
                clear hPa hDa
                have hPD9 := cl_s (wc := [(m0, .inr (11, oX11 ra y110)), (ra 2, .inl (kI, 8, .inl (upd q_told 4 ((q_told 4) + 1)))), (ra 3, .inl (kI, 24, .inl (upd q_kind (12 + (q_told 4)).toNatClampNeg r19))), (ra 4, .inl (kI, 24, .inl (upd q_salt (12 + (q_told 4)).toNatClampNeg r27))), (ra 5, .inl (kI, 24, .inl (upd q_pace (12 + (q_told 4)).toNatClampNeg r40))), (ra 6, .inl (kI, 24, .inl (upd q_mute (12 + (q_told 4)).toNatClampNeg 1))), (ra 7, .inl (kI, 24, .inl (upd q_late (12 + (q_told 4)).toNatClampNeg 0))), (ra 13, .inl (kI, 700, .inl q_tape)), (ra 1, .inl (kS, 4, .inr (.inr (.inr (.inr q_kinds)))))]) hP hD [7, 0, 1, 2, 3, 4, 5, 8, 6] rfl (by decide +kernel)
                have hP9 := hPD9.1
                have hD9 := hPD9.2
                exact W.vret hx hb hr (fun t ht hW => ⟨⟨(), rfl, trivial, y110, upd q_told 4 ((q_told 4) + 1), upd q_kind (12 + (q_told 4)).toNatClampNeg r19, upd q_salt (12 + (q_told 4)).toNatClampNeg r27, upd q_pace (12 + (q_told 4)).toNatClampNeg r40, upd q_mute (12 + (q_told 4)).toNatClampNeg 1, upd q_late (12 + (q_told 4)).toNatClampNeg 0, hq111, (fI_u hq_told (k := 4) ((iv_w b122 (by decide) (by decide)))), (fI_u hq_salt (k := (12 + (q_told 4)).toNatClampNeg) (w28.1)), (show (x0 2).toInt ≤ (y110 2).toInt from by omega), (show y110 3 = x0 3 from hq113.trans (hq45.trans (hq32.trans (hq10)))), (show ∀ j : Nat, (j : Int) < (q_told 1).toInt → (q_from j).toInt < (q_to j).toInt from hLT), (show ∀ j : Nat, (j : Int) < (q_told 5).toInt → (q_from (20 + j)).toInt < (q_to (20 + j)).toInt from hLD), (show RRd tT nN y110 (rtrS tT nN sS (q_told 4)) from it_f (Q := RRd tT nN y110) c1 (hrr121)), fun _ => ⟨rfl, congrArg (upd q_kind ((12 + (q_told 4)).toNatClampNeg)) ((kq_y hwk c21).2 (ok_next (ok_num (ok_next (ok_num (ok_next (rr_ok hrr52 c101))))))), congrArg (upd q_salt ((12 + (q_told 4)).toNatClampNeg)) (hv2 (ok_next (ok_num (ok_next (rr_ok hrr52 c101))))), congrArg (upd q_pace ((12 + (q_told 4)).toNatClampNeg)) (hv3 (ok_next (rr_ok hrr52 c101))), congrArg (upd q_mute ((12 + (q_told 4)).toNatClampNeg)) (wS_1 c56), congrArg (upd q_late ((12 + (q_told 4)).toNatClampNeg)) c99.symm⟩, low_t (by decide), (show y110 1 = x0 1 from hq116.trans (hq47.trans (hq34.trans (hq13)))), (show y110 10 = x0 10 from hq117.trans (hq48.trans (hq35.trans (hq14)))), (show y110 21 = x0 21 from hq118.trans (hq49.trans (hq36.trans (hq15)))), (show y110 25 = x0 25 from hq119.trans (hq50.trans (hq37.trans (hq16)))), (show y110 23 = x0 23 from hq120.trans (hq51.trans (hq38.trans (hq17)))), by rw [ht]; exact hP9, hD9⟩, hS.F ht⟩) hS.2.2 dX11_readRouter_178
            · have b123 : iv 1 1 (wS tT 9 (rtr4 tT nN sS)) := iv_neLo c99 b98 ivk_0 (by decide) (by decide)
              refine lv_iconst (v := 1) hx hb dX11_readRouter_135 ic_1 ?_
              refine lv_goto (tgt := 140) hx hb dX11_readRouter_136 rfl ?_
              refine va_iast hx hb hK hP hD hS 5 1 rfl rfl (iv_in b18 (by decide) (by decide)) dX11_readRouter_140 (fun H locs hPa hDa hS => ?_)
              clear hP hD
              have hP : va_P (dC, dI) vwCl [(ra 2, .inl (kI, 8, .inl q_told)), (ra 3, .inl (kI, 24, .inl (upd q_kind (12 + (q_told 4)).toNatClampNeg r19))), (ra 4, .inl (kI, 24, .inl (upd q_salt (12 + (q_told 4)).toNatClampNeg r27))), (ra 5, .inl (kI, 24, .inl (upd q_pace (12 + (q_told 4)).toNatClampNeg r40))), (ra 6, .inl (kI, 24, .inl (upd q_mute (12 + (q_told 4)).toNatClampNeg 1))), (ra 7, .inl (kI, 24, .inl (upd q_late (12 + (q_told 4)).toNatClampNeg 1))), (ra 1, .inl (kS, 4, .inr (.inr (.inr (.inr q_kinds))))), (m0, .inr (11, oX11 ra y42)), (ra 13, .inl (kI, 700, .inl q_tape))] H := hPa
              have hD : va_D A [(ra 2, .inl (kI, 8, .inl q_told)), (ra 3, .inl (kI, 24, .inl (upd q_kind (12 + (q_told 4)).toNatClampNeg r19))), (ra 4, .inl (kI, 24, .inl (upd q_salt (12 + (q_told 4)).toNatClampNeg r27))), (ra 5, .inl (kI, 24, .inl (upd q_pace (12 + (q_told 4)).toNatClampNeg r40))), (ra 6, .inl (kI, 24, .inl (upd q_mute (12 + (q_told 4)).toNatClampNeg 1))), (ra 7, .inl (kI, 24, .inl (upd q_late (12 + (q_told 4)).toNatClampNeg 1))), (ra 1, .inl (kS, 4, .inr (.inr (.inr (.inr q_kinds))))), (m0, .inr (11, oX11 ra y42)), (ra 13, .inl (kI, 700, .inl q_tape))] := hDa
              clear hPa hDa
              refine lv_aload_n hx hb dX11_readRouter_141 rfl (lv_at hl 2 rfl) ?_
              refine va_get (D := (dC, dI)) (ci := 11) (v := .int (y42 8)) (C := RX11) (T := TX11) (N := 61) hx hb hts hin11 hown hK hP 7 rfl rfl 22 (Nat.le_of_ble_eq_true rfl) hw_1 (fun _ h9 => h9) rfl dX11_readRouter_142 ?_
              refine lv_if_ne (tgt := 168) hx hb dX11_readRouter_145 rfl (fun c124 => ?_) (fun c124 => ?_)
              · have b125 : iv 1 5 (y42 8) := iv_neLo c124 (hq43 8 : iv 0 5 (y42 8)) ivk_0 (by decide) (by decide)
                have hrr126 : RRd tT nN y42 (manT tT nN (rtr4 tT nN sS)) := (mq_b hrr52 c124) ▸ hrr52
                refine lv_aload_n hx hb dX11_readRouter_168 rfl (lv_at hl 2 rfl) ?_
                refine va_get (D := (dC, dI)) (ci := 11) (v := .ref (ra 2)) (C := RX11) (T := TX11) (N := 61) hx hb hts hin11 hown hK hP 7 rfl rfl 3 (Nat.le_of_ble_eq_true rfl) hw_0 (fun _ h9 => h9) rfl dX11_readRouter_169 ?_
                refine lv_iconst (v := 4) hx hb dX11_readRouter_172 ic_4 ?_
                refine lv_dup2_11 hx hb dX11_readRouter_173 rfl rfl ?_
                refine va_iald hx hb hK hP 0 1 rfl rfl (vp_in_nI (n := 4) (by decide) (by decide)) dX11_readRouter_174 ?_
                refine W.eq (g2 := F0 m 175 ls [.int (q_told 4), .int 4, .ref (ra 2)]) rfl ?_
                refine lv_iconst (v := 1) hx hb dX11_readRouter_175 ic_1 ?_
                refine lv_iadd hx hb dX11_readRouter_176 ?_
                have b127 : iv 1 12 ((q_told 4) + 1) := iv_add b2 ivk_1 (by decide) (by decide) (by decide) (by decide)
                refine va_iast hx hb hK hP hD hS 0 1 rfl rfl (vp_in_nI (n := 4) (by decide) (by decide)) dX11_readRouter_177 (fun H locs hPa hDa hS => ?_)
                clear hP hD
                have hP : va_P (dC, dI) vwCl [(ra 2, .inl (kI, 8, .inl (upd q_told 4 ((q_told 4) + 1)))), (ra 3, .inl (kI, 24, .inl (upd q_kind (12 + (q_told 4)).toNatClampNeg r19))), (ra 4, .inl (kI, 24, .inl (upd q_salt (12 + (q_told 4)).toNatClampNeg r27))), (ra 5, .inl (kI, 24, .inl (upd q_pace (12 + (q_told 4)).toNatClampNeg r40))), (ra 6, .inl (kI, 24, .inl (upd q_mute (12 + (q_told 4)).toNatClampNeg 1))), (ra 7, .inl (kI, 24, .inl (upd q_late (12 + (q_told 4)).toNatClampNeg 1))), (ra 1, .inl (kS, 4, .inr (.inr (.inr (.inr q_kinds))))), (m0, .inr (11, oX11 ra y42)), (ra 13, .inl (kI, 700, .inl q_tape))] H := hPa
                have hD : va_D A [(ra 2, .inl (kI, 8, .inl (upd q_told 4 ((q_told 4) + 1)))), (ra 3, .inl (kI, 24, .inl (upd q_kind (12 + (q_told 4)).toNatClampNeg r19))), (ra 4, .inl (kI, 24, .inl (upd q_salt (12 + (q_told 4)).toNatClampNeg r27))), (ra 5, .inl (kI, 24, .inl (upd q_pace (12 + (q_told 4)).toNatClampNeg r40))), (ra 6, .inl (kI, 24, .inl (upd q_mute (12 + (q_told 4)).toNatClampNeg 1))), (ra 7, .inl (kI, 24, .inl (upd q_late (12 + (q_told 4)).toNatClampNeg 1))), (ra 1, .inl (kS, 4, .inr (.inr (.inr (.inr q_kinds))))), (m0, .inr (11, oX11 ra y42)), (ra 13, .inl (kI, 700, .inl q_tape))] := hDa
                clear hPa hDa
                have hPD9 := cl_s (wc := [(m0, .inr (11, oX11 ra y42)), (ra 2, .inl (kI, 8, .inl (upd q_told 4 ((q_told 4) + 1)))), (ra 3, .inl (kI, 24, .inl (upd q_kind (12 + (q_told 4)).toNatClampNeg r19))), (ra 4, .inl (kI, 24, .inl (upd q_salt (12 + (q_told 4)).toNatClampNeg r27))), (ra 5, .inl (kI, 24, .inl (upd q_pace (12 + (q_told 4)).toNatClampNeg r40))), (ra 6, .inl (kI, 24, .inl (upd q_mute (12 + (q_told 4)).toNatClampNeg 1))), (ra 7, .inl (kI, 24, .inl (upd q_late (12 + (q_told 4)).toNatClampNeg 1))), (ra 13, .inl (kI, 700, .inl q_tape)), (ra 1, .inl (kS, 4, .inr (.inr (.inr (.inr q_kinds)))))]) hP hD [7, 0, 1, 2, 3, 4, 5, 8, 6] rfl (by decide +kernel)
                have hP9 := hPD9.1
                have hD9 := hPD9.2
                exact W.vret hx hb hr (fun t ht hW => ⟨⟨(), rfl, trivial, y42, upd q_told 4 ((q_told 4) + 1), upd q_kind (12 + (q_told 4)).toNatClampNeg r19, upd q_salt (12 + (q_told 4)).toNatClampNeg r27, upd q_pace (12 + (q_told 4)).toNatClampNeg r40, upd q_mute (12 + (q_told 4)).toNatClampNeg 1, upd q_late (12 + (q_told 4)).toNatClampNeg 1, hq43, (fI_u hq_told (k := 4) ((iv_w b127 (by decide) (by decide)))), (fI_u hq_salt (k := (12 + (q_told 4)).toNatClampNeg) (w28.1)), (show (x0 2).toInt ≤ (y42 2).toInt from by omega), (show y42 3 = x0 3 from hq45.trans (hq32.trans (hq10))), (show ∀ j : Nat, (j : Int) < (q_told 1).toInt → (q_from j).toInt < (q_to j).toInt from hLT), (show ∀ j : Nat, (j : Int) < (q_told 5).toInt → (q_from (20 + j)).toInt < (q_to (20 + j)).toInt from hLD), (show RRd tT nN y42 (rtrS tT nN sS (q_told 4)) from it_f (Q := RRd tT nN y42) c1 (hrr126)), fun w => absurd w c124, low_t (by decide), (show y42 1 = x0 1 from hq47.trans (hq34.trans (hq13))), (show y42 10 = x0 10 from hq48.trans (hq35.trans (hq14))), (show y42 21 = x0 21 from hq49.trans (hq36.trans (hq15))), (show y42 25 = x0 25 from hq50.trans (hq37.trans (hq16))), (show y42 23 = x0 23 from hq51.trans (hq38.trans (hq17))), by rw [ht]; exact hP9, hD9⟩, hS.F ht⟩) hS.2.2 dX11_readRouter_178
              · have b128 : iv 0 0 (y42 8) := iv_eqL c124 ivk_0
                refine lv_aload_n hx hb dX11_readRouter_148 rfl (lv_at hl 2 rfl) ?_
                refine va_get (D := (dC, dI)) (ci := 11) (v := .ref (ra 6)) (C := RX11) (T := TX11) (N := 61) hx hb hts hin11 hown hK hP 7 rfl rfl 7 (Nat.le_of_ble_eq_true rfl) hw_6 (fun _ h9 => h9) rfl dX11_readRouter_149 ?_
                refine lv_iload_n hx hb dX11_readRouter_152 rfl (lv_at hl 1 rfl) ?_
                refine va_iald hx hb hK hP 4 1 rfl rfl (iv_in b18 (by decide) (by decide)) dX11_readRouter_153 ?_
                refine W.eq (g2 := F0 m 154 ls [.int 1]) (by rw [upd_eq]) ?_
                refine lv_aload_n hx hb dX11_readRouter_154 rfl (lv_at hl 2 rfl) ?_
                refine va_get (D := (dC, dI)) (ci := 11) (v := .ref (ra 7)) (C := RX11) (T := TX11) (N := 61) hx hb hts hin11 hown hK hP 7 rfl rfl 8 (Nat.le_of_ble_eq_true rfl) hw_7 (fun _ h9 => h9) rfl dX11_readRouter_155 ?_
                refine lv_iload_n hx hb dX11_readRouter_158 rfl (lv_at hl 1 rfl) ?_
                refine va_iald hx hb hK hP 5 1 rfl rfl (iv_in b18 (by decide) (by decide)) dX11_readRouter_159 ?_
                refine W.eq (g2 := F0 m 160 ls [.int 1, .int 1]) (by rw [upd_eq]) ?_
                refine lv_iadd hx hb dX11_readRouter_160 ?_
                refine lv_topi (fun z129 e130 => ?_)
                obtain rfl : z129 = (2 : Int32) := e130.trans (by decide)
                refine lv_if_le (tgt := 168) hx hb dX11_readRouter_161 rfl (fun c9 => absurd c9 (by decide)) (fun _ => ?_)
                refine lv_aload_n hx hb dX11_readRouter_164 rfl (lv_at hl 2 rfl) ?_
                obtain ⟨hPc, hDc, hFc, hJn⟩ := cl_a (wc := [(m0, .inr (11, oX11 ra y42)), (ra 13, .inl (kI, 700, .inl q_tape))]) (wr := [(ra 2, .inl (kI, 8, .inl q_told)), (ra 3, .inl (kI, 24, .inl (upd q_kind (12 + (q_told 4)).toNatClampNeg r19))), (ra 4, .inl (kI, 24, .inl (upd q_salt (12 + (q_told 4)).toNatClampNeg r27))), (ra 5, .inl (kI, 24, .inl (upd q_pace (12 + (q_told 4)).toNatClampNeg r40))), (ra 6, .inl (kI, 24, .inl (upd q_mute (12 + (q_told 4)).toNatClampNeg 1))), (ra 7, .inl (kI, 24, .inl (upd q_late (12 + (q_told 4)).toNatClampNeg 1))), (ra 1, .inl (kS, 4, .inr (.inr (.inr (.inr q_kinds)))))]) hP hD hS hA [7, 8] [0, 1, 2, 3, 4, 5, 6] rfl rfl (by decide +kernel)
                refine va_callv (va_runV (As := []) (rest := []) ⟨hx, hb, hml, hown, hts⟩ (s11_stepOn l dC dI kB kI kJ kZ kC kS H.size m0 ra y42 q_tape tT nN (nextT tT nN (rtr4 tT nN sS)) (hq43) (hq_tape) (hrr52.2) (stp_of hrr52) (hTQ)) (cwV 0 hts gX11_readRouter_X11_stepOn rfl rfl rfl (by decide +kernel) ⟨Nat.le_of_ble_eq_true rfl, Nat.le_of_ble_eq_true rfl⟩) ⟨fun a U g mk q => by obtain ⟨q0, q1, qP, qE, qD⟩ := q; exact ⟨q0, q1, qP, kE_call qE, qD⟩, va_recv hK hP (ci := 11) (q0 := 7) rfl rfl, fun U hU hW => ⟨rfl, by rw [hU], by rw [hU]; exact hPc, kE_warm hW hE, hDc.weaken (fun _ _ _ _ => trivial)⟩⟩ rfl rfl hl.1 rfl (lv_room (Nat.le_of_ble_eq_true rfl)) dX11_readRouter_165 ⟨Nat.le_of_ble_eq_true rfl, Nat.le_of_ble_eq_true rfl⟩) hS (fun q _ h => hFc q h) hFc (fun u t H locs ht hvm w132 hB hz1 hk1 hS => ?_)
                obtain ⟨y133, hq134, hq135, hq136, hq137, hq138, hq139, hq140, hq141, hq142, hq143, hP1, hD1⟩ := hB
                try dsimp only at w132
                obtain ⟨hPa, hDa⟩ := hJn (w1 := [(m0, .inr (11, oX11 ra y133)), (ra 13, .inl (kI, 700, .inl q_tape))]) hk1 ht hP1 hD1
                clear hP hD hPc hDc hFc hJn hP1 hD1 hk1
                have hP : va_P (dC, dI) vwCl [(ra 2, .inl (kI, 8, .inl q_told)), (ra 3, .inl (kI, 24, .inl (upd q_kind (12 + (q_told 4)).toNatClampNeg r19))), (ra 4, .inl (kI, 24, .inl (upd q_salt (12 + (q_told 4)).toNatClampNeg r27))), (ra 5, .inl (kI, 24, .inl (upd q_pace (12 + (q_told 4)).toNatClampNeg r40))), (ra 6, .inl (kI, 24, .inl (upd q_mute (12 + (q_told 4)).toNatClampNeg 1))), (ra 7, .inl (kI, 24, .inl (upd q_late (12 + (q_told 4)).toNatClampNeg 1))), (ra 1, .inl (kS, 4, .inr (.inr (.inr (.inr q_kinds))))), (m0, .inr (11, oX11 ra y133)), (ra 13, .inl (kI, 700, .inl q_tape))] H := hPa
                have hD : va_D A [(ra 2, .inl (kI, 8, .inl q_told)), (ra 3, .inl (kI, 24, .inl (upd q_kind (12 + (q_told 4)).toNatClampNeg r19))), (ra 4, .inl (kI, 24, .inl (upd q_salt (12 + (q_told 4)).toNatClampNeg r27))), (ra 5, .inl (kI, 24, .inl (upd q_pace (12 + (q_told 4)).toNatClampNeg r40))), (ra 6, .inl (kI, 24, .inl (upd q_mute (12 + (q_told 4)).toNatClampNeg 1))), (ra 7, .inl (kI, 24, .inl (upd q_late (12 + (q_told 4)).toNatClampNeg 1))), (ra 1, .inl (kS, 4, .inr (.inr (.inr (.inr q_kinds))))), (m0, .inr (11, oX11 ra y133)), (ra 13, .inl (kI, 700, .inl q_tape))] := hDa
                clear hPa hDa
                refine W.widen (k := 0) (n := 0) (Nat.le_of_ble_eq_true rfl) (Nat.le_of_ble_eq_true rfl) ?_
                have hrr144 : RRd tT nN y133 (manT tT nN (rtr4 tT nN sS)) := (mq_s hrr52 c124 (Or.inl c56)) ▸ hq138
                refine lv_aload_n hx hb dX11_readRouter_168 rfl (lv_at hl 2 rfl) ?_
                refine va_get (D := (dC, dI)) (ci := 11) (v := .ref (ra 2)) (C := RX11) (T := TX11) (N := 61) hx hb hts hin11 hown hK hP 7 rfl rfl 3 (Nat.le_of_ble_eq_true rfl) hw_0 (fun _ h9 => h9) rfl dX11_readRouter_169 ?_
                refine lv_iconst (v := 4) hx hb dX11_readRouter_172 ic_4 ?_
                refine lv_dup2_11 hx hb dX11_readRouter_173 rfl rfl ?_
                refine va_iald hx hb hK hP 0 1 rfl rfl (vp_in_nI (n := 4) (by decide) (by decide)) dX11_readRouter_174 ?_
                refine W.eq (g2 := F0 m 175 ls [.int (q_told 4), .int 4, .ref (ra 2)]) rfl ?_
                refine lv_iconst (v := 1) hx hb dX11_readRouter_175 ic_1 ?_
                refine lv_iadd hx hb dX11_readRouter_176 ?_
                have b145 : iv 1 12 ((q_told 4) + 1) := iv_add b2 ivk_1 (by decide) (by decide) (by decide) (by decide)
                refine va_iast hx hb hK hP hD hS 0 1 rfl rfl (vp_in_nI (n := 4) (by decide) (by decide)) dX11_readRouter_177 (fun H locs hPa hDa hS => ?_)
                clear hP hD
                have hP : va_P (dC, dI) vwCl [(ra 2, .inl (kI, 8, .inl (upd q_told 4 ((q_told 4) + 1)))), (ra 3, .inl (kI, 24, .inl (upd q_kind (12 + (q_told 4)).toNatClampNeg r19))), (ra 4, .inl (kI, 24, .inl (upd q_salt (12 + (q_told 4)).toNatClampNeg r27))), (ra 5, .inl (kI, 24, .inl (upd q_pace (12 + (q_told 4)).toNatClampNeg r40))), (ra 6, .inl (kI, 24, .inl (upd q_mute (12 + (q_told 4)).toNatClampNeg 1))), (ra 7, .inl (kI, 24, .inl (upd q_late (12 + (q_told 4)).toNatClampNeg 1))), (ra 1, .inl (kS, 4, .inr (.inr (.inr (.inr q_kinds))))), (m0, .inr (11, oX11 ra y133)), (ra 13, .inl (kI, 700, .inl q_tape))] H := hPa
                have hD : va_D A [(ra 2, .inl (kI, 8, .inl (upd q_told 4 ((q_told 4) + 1)))), (ra 3, .inl (kI, 24, .inl (upd q_kind (12 + (q_told 4)).toNatClampNeg r19))), (ra 4, .inl (kI, 24, .inl (upd q_salt (12 + (q_told 4)).toNatClampNeg r27))), (ra 5, .inl (kI, 24, .inl (upd q_pace (12 + (q_told 4)).toNatClampNeg r40))), (ra 6, .inl (kI, 24, .inl (upd q_mute (12 + (q_told 4)).toNatClampNeg 1))), (ra 7, .inl (kI, 24, .inl (upd q_late (12 + (q_told 4)).toNatClampNeg 1))), (ra 1, .inl (kS, 4, .inr (.inr (.inr (.inr q_kinds))))), (m0, .inr (11, oX11 ra y133)), (ra 13, .inl (kI, 700, .inl q_tape))] := hDa
                clear hPa hDa
                have hPD9 := cl_s (wc := [(m0, .inr (11, oX11 ra y133)), (ra 2, .inl (kI, 8, .inl (upd q_told 4 ((q_told 4) + 1)))), (ra 3, .inl (kI, 24, .inl (upd q_kind (12 + (q_told 4)).toNatClampNeg r19))), (ra 4, .inl (kI, 24, .inl (upd q_salt (12 + (q_told 4)).toNatClampNeg r27))), (ra 5, .inl (kI, 24, .inl (upd q_pace (12 + (q_told 4)).toNatClampNeg r40))), (ra 6, .inl (kI, 24, .inl (upd q_mute (12 + (q_told 4)).toNatClampNeg 1))), (ra 7, .inl (kI, 24, .inl (upd q_late (12 + (q_told 4)).toNatClampNeg 1))), (ra 13, .inl (kI, 700, .inl q_tape)), (ra 1, .inl (kS, 4, .inr (.inr (.inr (.inr q_kinds)))))]) hP hD [7, 0, 1, 2, 3, 4, 5, 8, 6] rfl (by decide +kernel)
                have hP9 := hPD9.1
                have hD9 := hPD9.2
                exact W.vret hx hb hr (fun t ht hW => ⟨⟨(), rfl, trivial, y133, upd q_told 4 ((q_told 4) + 1), upd q_kind (12 + (q_told 4)).toNatClampNeg r19, upd q_salt (12 + (q_told 4)).toNatClampNeg r27, upd q_pace (12 + (q_told 4)).toNatClampNeg r40, upd q_mute (12 + (q_told 4)).toNatClampNeg 1, upd q_late (12 + (q_told 4)).toNatClampNeg 1, hq134, (fI_u hq_told (k := 4) ((iv_w b145 (by decide) (by decide)))), (fI_u hq_salt (k := (12 + (q_told 4)).toNatClampNeg) (w28.1)), (show (x0 2).toInt ≤ (y133 2).toInt from by omega), (show y133 3 = x0 3 from hq136.trans (hq45.trans (hq32.trans (hq10)))), (show ∀ j : Nat, (j : Int) < (q_told 1).toInt → (q_from j).toInt < (q_to j).toInt from hLT), (show ∀ j : Nat, (j : Int) < (q_told 5).toInt → (q_from (20 + j)).toInt < (q_to (20 + j)).toInt from hLD), (show RRd tT nN y133 (rtrS tT nN sS (q_told 4)) from it_f (Q := RRd tT nN y133) c1 (hrr144)), fun _ => ⟨rfl, congrArg (upd q_kind ((12 + (q_told 4)).toNatClampNeg)) ((kq_y hwk c21).2 (ok_next (ok_num (ok_next (ok_num (ok_next (rr_ok hrr52 c124))))))), congrArg (upd q_salt ((12 + (q_told 4)).toNatClampNeg)) (hv2 (ok_next (ok_num (ok_next (rr_ok hrr52 c124))))), congrArg (upd q_pace ((12 + (q_told 4)).toNatClampNeg)) (hv3 (ok_next (rr_ok hrr52 c124))), congrArg (upd q_mute ((12 + (q_told 4)).toNatClampNeg)) (wS_1 c56), congrArg (upd q_late ((12 + (q_told 4)).toNatClampNeg)) (wS_1 c99)⟩, low_t (by decide), (show y133 1 = x0 1 from hq139.trans (hq47.trans (hq34.trans (hq13)))), (show y133 10 = x0 10 from hq140.trans (hq48.trans (hq35.trans (hq14)))), (show y133 21 = x0 21 from hq141.trans (hq49.trans (hq36.trans (hq15)))), (show y133 25 = x0 25 from hq142.trans (hq50.trans (hq37.trans (hq16)))), (show y133 23 = x0 23 from hq143.trans (hq51.trans (hq38.trans (hq17)))), by rw [ht]; exact hP9, hD9⟩, hS.F ht⟩) hS.2.2 dX11_readRouter_178
        · have b146 : iv 0 0 (y7 8) := iv_eqL c24 ivk_0
          refine lv_aload_n hx hb dX11_readRouter_64 rfl (lv_at hl 2 rfl) ?_
          obtain ⟨hPc, hDc, hFc, hJn⟩ := cl_a (wc := [(m0, .inr (11, oX11 ra y7)), (ra 13, .inl (kI, 700, .inl q_tape))]) (wr := [(ra 2, .inl (kI, 8, .inl q_told)), (ra 3, .inl (kI, 24, .inl q_kind)), (ra 4, .inl (kI, 24, .inl q_salt)), (ra 5, .inl (kI, 24, .inl q_pace)), (ra 6, .inl (kI, 24, .inl q_mute)), (ra 7, .inl (kI, 24, .inl q_late)), (ra 1, .inl (kS, 4, .inr (.inr (.inr (.inr q_kinds)))))]) hP hD hS hA [6, 7] [0, 1, 2, 3, 4, 5, 8] rfl rfl (by decide +kernel)
          refine va_callv (va_runV (As := []) (rest := []) ⟨hx, hb, hml, hown, hts⟩ (s11_stepOn l dC dI kB kI kJ kZ kC kS H.size m0 ra y7 q_tape tT nN (nextT tT nN (kndT tT (rtr1 tT nN sS))) (hq8) (hq_tape) (hrr23.2) (stp_of hrr23) (hTQ)) (cwV 0 hts gX11_readRouter_X11_stepOn rfl rfl rfl (by decide +kernel) ⟨Nat.le_of_ble_eq_true rfl, Nat.le_of_ble_eq_true rfl⟩) ⟨fun a U g mk q => by obtain ⟨q0, q1, qP, qE, qD⟩ := q; exact ⟨q0, q1, qP, kE_call qE, qD⟩, va_recv hK hP (ci := 11) (q0 := 6) rfl rfl, fun U hU hW => ⟨rfl, by rw [hU], by rw [hU]; exact hPc, kE_warm hW hE, hDc.weaken (fun _ _ _ _ => trivial)⟩⟩ rfl rfl hl.1 rfl (lv_room (Nat.le_of_ble_eq_true rfl)) dX11_readRouter_65 ⟨Nat.le_of_ble_eq_true rfl, Nat.le_of_ble_eq_true rfl⟩) hS (fun q _ h => hFc q h) hFc (fun u t H locs ht hvm w148 hB hz1 hk1 hS => ?_)
          obtain ⟨y149, hq150, hq151, hq152, hq153, hq154, hq155, hq156, hq157, hq158, hq159, hP1, hD1⟩ := hB
          try dsimp only at w148
          obtain ⟨hPa, hDa⟩ := hJn (w1 := [(m0, .inr (11, oX11 ra y149)), (ra 13, .inl (kI, 700, .inl q_tape))]) hk1 ht hP1 hD1
          clear hP hD hPc hDc hFc hJn hP1 hD1 hk1
          have hP : va_P (dC, dI) vwCl [(ra 2, .inl (kI, 8, .inl q_told)), (ra 3, .inl (kI, 24, .inl q_kind)), (ra 4, .inl (kI, 24, .inl q_salt)), (ra 5, .inl (kI, 24, .inl q_pace)), (ra 6, .inl (kI, 24, .inl q_mute)), (ra 7, .inl (kI, 24, .inl q_late)), (ra 1, .inl (kS, 4, .inr (.inr (.inr (.inr q_kinds))))), (m0, .inr (11, oX11 ra y149)), (ra 13, .inl (kI, 700, .inl q_tape))] H := hPa
          have hD : va_D A [(ra 2, .inl (kI, 8, .inl q_told)), (ra 3, .inl (kI, 24, .inl q_kind)), (ra 4, .inl (kI, 24, .inl q_salt)), (ra 5, .inl (kI, 24, .inl q_pace)), (ra 6, .inl (kI, 24, .inl q_mute)), (ra 7, .inl (kI, 24, .inl q_late)), (ra 1, .inl (kS, 4, .inr (.inr (.inr (.inr q_kinds))))), (m0, .inr (11, oX11 ra y149)), (ra 13, .inl (kI, 700, .inl q_tape))] := hDa
          clear hPa hDa
          refine W.widen (k := 0) (n := 0) (Nat.le_of_ble_eq_true rfl) (Nat.le_of_ble_eq_true rfl) ?_
          have hrr160 : RRd tT nN y149 (rtr2 tT nN sS) := hq154
          refine lv_aload_n hx hb dX11_readRouter_68 rfl (lv_at hl 2 rfl) ?_
          refine va_get (D := (dC, dI)) (ci := 11) (v := .ref (ra 3)) (C := RX11) (T := TX11) (N := 61) hx hb hts hin11 hown hK hP 7 rfl rfl 4 (Nat.le_of_ble_eq_true rfl) hw_3 (fun _ h9 => h9) rfl dX11_readRouter_69 ?_
          refine lv_iload_n hx hb dX11_readRouter_72 rfl (lv_at hl 1 rfl) ?_
          refine lv_iload_n hx hb dX11_readRouter_73 rfl (lv_at hl 0 rfl) ?_
          refine va_iast hx hb hK hP hD hS 1 1 rfl rfl (iv_in b18 (by decide) (by decide)) dX11_readRouter_74 (fun H locs hPa hDa hS => ?_)
          clear hP hD
          have hP : va_P (dC, dI) vwCl [(ra 2, .inl (kI, 8, .inl q_told)), (ra 3, .inl (kI, 24, .inl (upd q_kind (12 + (q_told 4)).toNatClampNeg r19))), (ra 4, .inl (kI, 24, .inl q_salt)), (ra 5, .inl (kI, 24, .inl q_pace)), (ra 6, .inl (kI, 24, .inl q_mute)), (ra 7, .inl (kI, 24, .inl q_late)), (ra 1, .inl (kS, 4, .inr (.inr (.inr (.inr q_kinds))))), (m0, .inr (11, oX11 ra y149)), (ra 13, .inl (kI, 700, .inl q_tape))] H := hPa
          have hD : va_D A [(ra 2, .inl (kI, 8, .inl q_told)), (ra 3, .inl (kI, 24, .inl (upd q_kind (12 + (q_told 4)).toNatClampNeg r19))), (ra 4, .inl (kI, 24, .inl q_salt)), (ra 5, .inl (kI, 24, .inl q_pace)), (ra 6, .inl (kI, 24, .inl q_mute)), (ra 7, .inl (kI, 24, .inl q_late)), (ra 1, .inl (kS, 4, .inr (.inr (.inr (.inr q_kinds))))), (m0, .inr (11, oX11 ra y149)), (ra 13, .inl (kI, 700, .inl q_tape))] := hDa
          clear hPa hDa
          refine lv_aload_n hx hb dX11_readRouter_75 rfl (lv_at hl 2 rfl) ?_
          refine va_get (D := (dC, dI)) (ci := 11) (v := .ref (ra 4)) (C := RX11) (T := TX11) (N := 61) hx hb hts hin11 hown hK hP 7 rfl rfl 5 (Nat.le_of_ble_eq_true rfl) hw_4 (fun _ h9 => h9) rfl dX11_readRouter_76 ?_
          refine lv_iload_n hx hb dX11_readRouter_79 rfl (lv_at hl 1 rfl) ?_
          refine lv_aload_n hx hb dX11_readRouter_80 rfl (lv_at hl 2 rfl) ?_
          refine lv_iconst (v := 0) hx hb dX11_readRouter_81 ic_0 ?_
          refine lv_bipush (v := 15) hx hb dX11_readRouter_82 bp_15 ?_
          obtain ⟨hPc, hDc, hFc, hJn⟩ := cl_a (wc := [(m0, .inr (11, oX11 ra y149)), (ra 13, .inl (kI, 700, .inl q_tape))]) (wr := [(ra 2, .inl (kI, 8, .inl q_told)), (ra 3, .inl (kI, 24, .inl (upd q_kind (12 + (q_told 4)).toNatClampNeg r19))), (ra 4, .inl (kI, 24, .inl q_salt)), (ra 5, .inl (kI, 24, .inl q_pace)), (ra 6, .inl (kI, 24, .inl q_mute)), (ra 7, .inl (kI, 24, .inl q_late)), (ra 1, .inl (kS, 4, .inr (.inr (.inr (.inr q_kinds)))))]) hP hD hS hA [7, 8] [0, 1, 2, 3, 4, 5, 6] rfl rfl (by decide +kernel)
          refine va_calli (va_runV (As := [.int 0, .int 15]) (rest := [.int (12 + (q_told 4)), .ref (ra 4)]) ⟨hx, hb, hml, hown, hts⟩ (s11_readNumber_0_15 l dC dI kB kI kJ kZ kC kS H.size m0 ra y149 q_tape tT nN (rtr2 tT nN sS) (hq150) (hq_tape) (hrr160) (hTQ)) (cwV 2 hts gX11_readRouter_X11_readNumber rfl rfl rfl (by decide +kernel) ⟨Nat.le_of_ble_eq_true rfl, Nat.le_of_ble_eq_true rfl⟩) ⟨fun a U g mk q => by obtain ⟨q0, q1, qP, qE, qD⟩ := q; exact ⟨q0, q1, qP, kE_call qE, qD⟩, va_recv hK hP (ci := 11) (q0 := 7) rfl rfl, fun U hU hW => ⟨rfl, by rw [hU], by rw [hU]; exact hPc, kE_warm hW hE, hDc.weaken (fun _ _ _ _ => trivial)⟩⟩ rfl rfl hl.1 rfl (lv_room (Nat.le_of_ble_eq_true rfl)) dX11_readRouter_84 ⟨Nat.le_of_ble_eq_true rfl, Nat.le_of_ble_eq_true rfl⟩) hS (fun q _ h => hFc q h) hFc (fun r161 u t H locs ht hvm w162 hB hz1 hk1 hS => ?_)
          obtain ⟨y163, hq164, hq165, hq166, hq167, hq168, hq169, hq170, hq171, hq172, hP1, hD1⟩ := hB
          try dsimp only at w162
          obtain ⟨hPa, hDa⟩ := hJn (w1 := [(m0, .inr (11, oX11 ra y163)), (ra 13, .inl (kI, 700, .inl q_tape))]) hk1 ht hP1 hD1
          clear hP hD hPc hDc hFc hJn hP1 hD1 hk1
          have hP : va_P (dC, dI) vwCl [(ra 2, .inl (kI, 8, .inl q_told)), (ra 3, .inl (kI, 24, .inl (upd q_kind (12 + (q_told 4)).toNatClampNeg r19))), (ra 4, .inl (kI, 24, .inl q_salt)), (ra 5, .inl (kI, 24, .inl q_pace)), (ra 6, .inl (kI, 24, .inl q_mute)), (ra 7, .inl (kI, 24, .inl q_late)), (ra 1, .inl (kS, 4, .inr (.inr (.inr (.inr q_kinds))))), (m0, .inr (11, oX11 ra y163)), (ra 13, .inl (kI, 700, .inl q_tape))] H := hPa
          have hD : va_D A [(ra 2, .inl (kI, 8, .inl q_told)), (ra 3, .inl (kI, 24, .inl (upd q_kind (12 + (q_told 4)).toNatClampNeg r19))), (ra 4, .inl (kI, 24, .inl q_salt)), (ra 5, .inl (kI, 24, .inl q_pace)), (ra 6, .inl (kI, 24, .inl q_mute)), (ra 7, .inl (kI, 24, .inl q_late)), (ra 1, .inl (kS, 4, .inr (.inr (.inr (.inr q_kinds))))), (m0, .inr (11, oX11 ra y163)), (ra 13, .inl (kI, 700, .inl q_tape))] := hDa
          clear hPa hDa
          refine W.widen (k := 0) (n := 0) (Nat.le_of_ble_eq_true rfl) (Nat.le_of_ble_eq_true rfl) ?_
          have hv2 := w162.2
          refine va_iast hx hb hK hP hD hS 2 1 rfl rfl (iv_in b18 (by decide) (by decide)) dX11_readRouter_87 (fun H locs hPa hDa hS => ?_)
          clear hP hD
          have hP : va_P (dC, dI) vwCl [(ra 2, .inl (kI, 8, .inl q_told)), (ra 3, .inl (kI, 24, .inl (upd q_kind (12 + (q_told 4)).toNatClampNeg r19))), (ra 4, .inl (kI, 24, .inl (upd q_salt (12 + (q_told 4)).toNatClampNeg r161))), (ra 5, .inl (kI, 24, .inl q_pace)), (ra 6, .inl (kI, 24, .inl q_mute)), (ra 7, .inl (kI, 24, .inl q_late)), (ra 1, .inl (kS, 4, .inr (.inr (.inr (.inr q_kinds))))), (m0, .inr (11, oX11 ra y163)), (ra 13, .inl (kI, 700, .inl q_tape))] H := hPa
          have hD : va_D A [(ra 2, .inl (kI, 8, .inl q_told)), (ra 3, .inl (kI, 24, .inl (upd q_kind (12 + (q_told 4)).toNatClampNeg r19))), (ra 4, .inl (kI, 24, .inl (upd q_salt (12 + (q_told 4)).toNatClampNeg r161))), (ra 5, .inl (kI, 24, .inl q_pace)), (ra 6, .inl (kI, 24, .inl q_mute)), (ra 7, .inl (kI, 24, .inl q_late)), (ra 1, .inl (kS, 4, .inr (.inr (.inr (.inr q_kinds))))), (m0, .inr (11, oX11 ra y163)), (ra 13, .inl (kI, 700, .inl q_tape))] := hDa
          clear hPa hDa
          have hrr173 : RRd tT nN y163 (rtr3 tT nN sS) := hq167
          refine lv_aload_n hx hb dX11_readRouter_88 rfl (lv_at hl 2 rfl) ?_
          refine va_get (D := (dC, dI)) (ci := 11) (v := .ref (ra 5)) (C := RX11) (T := TX11) (N := 61) hx hb hts hin11 hown hK hP 7 rfl rfl 6 (Nat.le_of_ble_eq_true rfl) hw_5 (fun _ h9 => h9) rfl dX11_readRouter_89 ?_
          refine lv_iload_n hx hb dX11_readRouter_92 rfl (lv_at hl 1 rfl) ?_
          refine lv_aload_n hx hb dX11_readRouter_93 rfl (lv_at hl 2 rfl) ?_
          refine lv_iconst (v := 1) hx hb dX11_readRouter_94 ic_1 ?_
          refine lv_bipush (v := 60) hx hb dX11_readRouter_95 bp_60 ?_
          obtain ⟨hPc, hDc, hFc, hJn⟩ := cl_a (wc := [(m0, .inr (11, oX11 ra y163)), (ra 13, .inl (kI, 700, .inl q_tape))]) (wr := [(ra 2, .inl (kI, 8, .inl q_told)), (ra 3, .inl (kI, 24, .inl (upd q_kind (12 + (q_told 4)).toNatClampNeg r19))), (ra 4, .inl (kI, 24, .inl (upd q_salt (12 + (q_told 4)).toNatClampNeg r161))), (ra 5, .inl (kI, 24, .inl q_pace)), (ra 6, .inl (kI, 24, .inl q_mute)), (ra 7, .inl (kI, 24, .inl q_late)), (ra 1, .inl (kS, 4, .inr (.inr (.inr (.inr q_kinds)))))]) hP hD hS hA [7, 8] [0, 1, 2, 3, 4, 5, 6] rfl rfl (by decide +kernel)
          refine va_calli (va_runV (As := [.int 1, .int 60]) (rest := [.int (12 + (q_told 4)), .ref (ra 5)]) ⟨hx, hb, hml, hown, hts⟩ (s11_readNumber_1_60 l dC dI kB kI kJ kZ kC kS H.size m0 ra y163 q_tape tT nN (rtr3 tT nN sS) (hq164) (hq_tape) (hrr173) (hTQ)) (cwV 2 hts gX11_readRouter_X11_readNumber rfl rfl rfl (by decide +kernel) ⟨Nat.le_of_ble_eq_true rfl, Nat.le_of_ble_eq_true rfl⟩) ⟨fun a U g mk q => by obtain ⟨q0, q1, qP, qE, qD⟩ := q; exact ⟨q0, q1, qP, kE_call qE, qD⟩, va_recv hK hP (ci := 11) (q0 := 7) rfl rfl, fun U hU hW => ⟨rfl, by rw [hU], by rw [hU]; exact hPc, kE_warm hW hE, hDc.weaken (fun _ _ _ _ => trivial)⟩⟩ rfl rfl hl.1 rfl (lv_room (Nat.le_of_ble_eq_true rfl)) dX11_readRouter_97 ⟨Nat.le_of_ble_eq_true rfl, Nat.le_of_ble_eq_true rfl⟩) hS (fun q _ h => hFc q h) hFc (fun r174 u t H locs ht hvm w175 hB hz1 hk1 hS => ?_)
          obtain ⟨y176, hq177, hq178, hq179, hq180, hq181, hq182, hq183, hq184, hq185, hP1, hD1⟩ := hB
          try dsimp only at w175
          obtain ⟨hPa, hDa⟩ := hJn (w1 := [(m0, .inr (11, oX11 ra y176)), (ra 13, .inl (kI, 700, .inl q_tape))]) hk1 ht hP1 hD1
          clear hP hD hPc hDc hFc hJn hP1 hD1 hk1
          have hP : va_P (dC, dI) vwCl [(ra 2, .inl (kI, 8, .inl q_told)), (ra 3, .inl (kI, 24, .inl (upd q_kind (12 + (q_told 4)).toNatClampNeg r19))), (ra 4, .inl (kI, 24, .inl (upd q_salt (12 + (q_told 4)).toNatClampNeg r161))), (ra 5, .inl (kI, 24, .inl q_pace)), (ra 6, .inl (kI, 24, .inl q_mute)), (ra 7, .inl (kI, 24, .inl q_late)), (ra 1, .inl (kS, 4, .inr (.inr (.inr (.inr q_kinds))))), (m0, .inr (11, oX11 ra y176)), (ra 13, .inl (kI, 700, .inl q_tape))] H := hPa
          have hD : va_D A [(ra 2, .inl (kI, 8, .inl q_told)), (ra 3, .inl (kI, 24, .inl (upd q_kind (12 + (q_told 4)).toNatClampNeg r19))), (ra 4, .inl (kI, 24, .inl (upd q_salt (12 + (q_told 4)).toNatClampNeg r161))), (ra 5, .inl (kI, 24, .inl q_pace)), (ra 6, .inl (kI, 24, .inl q_mute)), (ra 7, .inl (kI, 24, .inl q_late)), (ra 1, .inl (kS, 4, .inr (.inr (.inr (.inr q_kinds))))), (m0, .inr (11, oX11 ra y176)), (ra 13, .inl (kI, 700, .inl q_tape))] := hDa
          clear hPa hDa
          refine W.widen (k := 0) (n := 0) (Nat.le_of_ble_eq_true rfl) (Nat.le_of_ble_eq_true rfl) ?_
          have hv3 := w175.2
          refine va_iast hx hb hK hP hD hS 3 1 rfl rfl (iv_in b18 (by decide) (by decide)) dX11_readRouter_100 (fun H locs hPa hDa hS => ?_)
          clear hP hD
          have hP : va_P (dC, dI) vwCl [(ra 2, .inl (kI, 8, .inl q_told)), (ra 3, .inl (kI, 24, .inl (upd q_kind (12 + (q_told 4)).toNatClampNeg r19))), (ra 4, .inl (kI, 24, .inl (upd q_salt (12 + (q_told 4)).toNatClampNeg r161))), (ra 5, .inl (kI, 24, .inl (upd q_pace (12 + (q_told 4)).toNatClampNeg r174))), (ra 6, .inl (kI, 24, .inl q_mute)), (ra 7, .inl (kI, 24, .inl q_late)), (ra 1, .inl (kS, 4, .inr (.inr (.inr (.inr q_kinds))))), (m0, .inr (11, oX11 ra y176)), (ra 13, .inl (kI, 700, .inl q_tape))] H := hPa
          have hD : va_D A [(ra 2, .inl (kI, 8, .inl q_told)), (ra 3, .inl (kI, 24, .inl (upd q_kind (12 + (q_told 4)).toNatClampNeg r19))), (ra 4, .inl (kI, 24, .inl (upd q_salt (12 + (q_told 4)).toNatClampNeg r161))), (ra 5, .inl (kI, 24, .inl (upd q_pace (12 + (q_told 4)).toNatClampNeg r174))), (ra 6, .inl (kI, 24, .inl q_mute)), (ra 7, .inl (kI, 24, .inl q_late)), (ra 1, .inl (kS, 4, .inr (.inr (.inr (.inr q_kinds))))), (m0, .inr (11, oX11 ra y176)), (ra 13, .inl (kI, 700, .inl q_tape))] := hDa
          clear hPa hDa
          have hrr186 : RRd tT nN y176 (rtr4 tT nN sS) := hq180
          refine lv_aload_n hx hb dX11_readRouter_101 rfl (lv_at hl 2 rfl) ?_
          refine va_get (D := (dC, dI)) (ci := 11) (v := .ref (ra 6)) (C := RX11) (T := TX11) (N := 61) hx hb hts hin11 hown hK hP 7 rfl rfl 7 (Nat.le_of_ble_eq_true rfl) hw_6 (fun _ h9 => h9) rfl dX11_readRouter_102 ?_
          refine lv_iload_n hx hb dX11_readRouter_105 rfl (lv_at hl 1 rfl) ?_
          refine lv_aload_n hx hb dX11_readRouter_106 rfl (lv_at hl 2 rfl) ?_
          refine va_ldcS hx hb hown hKL.2.2.2.2.2.2.2.2.2.2.2.2.2.2.2.2.2.2.2.2.2.1 dX11_readRouter_107 ?_
          obtain ⟨hPc, hDc, hFc, hJn⟩ := cl_a (wc := [(m0, .inr (11, oX11 ra y176)), (ra 13, .inl (kI, 700, .inl q_tape))]) (wr := [(ra 2, .inl (kI, 8, .inl q_told)), (ra 3, .inl (kI, 24, .inl (upd q_kind (12 + (q_told 4)).toNatClampNeg r19))), (ra 4, .inl (kI, 24, .inl (upd q_salt (12 + (q_told 4)).toNatClampNeg r161))), (ra 5, .inl (kI, 24, .inl (upd q_pace (12 + (q_told 4)).toNatClampNeg r174))), (ra 6, .inl (kI, 24, .inl q_mute)), (ra 7, .inl (kI, 24, .inl q_late)), (ra 1, .inl (kS, 4, .inr (.inr (.inr (.inr q_kinds)))))]) hP hD hS hA [7, 8] [0, 1, 2, 3, 4, 5, 6] rfl rfl (by decide +kernel)
          refine va_calli (va_runV (As := [.ref (adK 8)]) (rest := [.int (12 + (q_told 4)), .ref (ra 6)]) ⟨hx, hb, hml, hown, hts⟩ (s11_is l dC dI kB kI kJ kZ kC kS H.size adK adV m0 ra y176 q_tape 8 tT nN (rtr4 tT nN sS) (hq177) (hq_tape) ((by decide)) (hrr186) (hTQ)) (cwV 1 hts gX11_readRouter_X11_is rfl rfl rfl (by decide +kernel) ⟨Nat.le_of_ble_eq_true rfl, Nat.le_of_ble_eq_true rfl⟩) ⟨fun a U g mk q => by obtain ⟨q0, q1, qP, qE, qD, qL⟩ := q; exact ⟨q0, q1, qP, kE_call qE, qD, kL_call qL⟩, va_recv hK hP (ci := 11) (q0 := 7) rfl rfl, fun U hU hW => ⟨rfl, by rw [hU], by rw [hU]; exact hPc, kE_warm hW hE, hDc.weaken (fun _ _ _ _ => trivial), kL_at hKL hS hFc hW hU⟩⟩ rfl rfl hl.1 rfl (lv_room (Nat.le_of_ble_eq_true rfl)) dX11_readRouter_109 ⟨Nat.le_of_ble_eq_true rfl, Nat.le_of_ble_eq_true rfl⟩) hS (fun q _ h => hFc q h) hFc (fun r187 u t H locs ht hvm w188 hB hz1 hk1 hS => ?_)
          obtain ⟨hP1, hD1⟩ := hB
          try dsimp only at w188
          obtain ⟨hPa, hDa⟩ := hJn (w1 := [(m0, .inr (11, oX11 ra y176)), (ra 13, .inl (kI, 700, .inl q_tape))]) hk1 ht hP1 hD1
          clear hP hD hPc hDc hFc hJn hP1 hD1 hk1
          have hP : va_P (dC, dI) vwCl [(ra 2, .inl (kI, 8, .inl q_told)), (ra 3, .inl (kI, 24, .inl (upd q_kind (12 + (q_told 4)).toNatClampNeg r19))), (ra 4, .inl (kI, 24, .inl (upd q_salt (12 + (q_told 4)).toNatClampNeg r161))), (ra 5, .inl (kI, 24, .inl (upd q_pace (12 + (q_told 4)).toNatClampNeg r174))), (ra 6, .inl (kI, 24, .inl q_mute)), (ra 7, .inl (kI, 24, .inl q_late)), (ra 1, .inl (kS, 4, .inr (.inr (.inr (.inr q_kinds))))), (m0, .inr (11, oX11 ra y176)), (ra 13, .inl (kI, 700, .inl q_tape))] H := hPa
          have hD : va_D A [(ra 2, .inl (kI, 8, .inl q_told)), (ra 3, .inl (kI, 24, .inl (upd q_kind (12 + (q_told 4)).toNatClampNeg r19))), (ra 4, .inl (kI, 24, .inl (upd q_salt (12 + (q_told 4)).toNatClampNeg r161))), (ra 5, .inl (kI, 24, .inl (upd q_pace (12 + (q_told 4)).toNatClampNeg r174))), (ra 6, .inl (kI, 24, .inl q_mute)), (ra 7, .inl (kI, 24, .inl q_late)), (ra 1, .inl (kS, 4, .inr (.inr (.inr (.inr q_kinds))))), (m0, .inr (11, oX11 ra y176)), (ra 13, .inl (kI, 700, .inl q_tape))] := hDa
          clear hPa hDa
          refine W.widen (k := 0) (n := 0) (Nat.le_of_ble_eq_true rfl) (Nat.le_of_ble_eq_true rfl) ?_
          obtain ⟨w188, b189⟩ := w188
          subst w188
          refine lv_if_eq (tgt := 119) hx hb dX11_readRouter_112 rfl (fun c190 => ?_) (fun c190 => ?_)
          · have b191 : iv 0 0 (wS tT 8 (rtr4 tT nN sS)) := iv_eqL c190 ivk_0
            refine lv_iconst (v := 0) hx hb dX11_readRouter_119 ic_0 ?_
            refine va_iast hx hb hK hP hD hS 4 1 rfl rfl (iv_in b18 (by decide) (by decide)) dX11_readRouter_120 (fun H locs hPa hDa hS => ?_)
            clear hP hD
            have hP : va_P (dC, dI) vwCl [(ra 2, .inl (kI, 8, .inl q_told)), (ra 3, .inl (kI, 24, .inl (upd q_kind (12 + (q_told 4)).toNatClampNeg r19))), (ra 4, .inl (kI, 24, .inl (upd q_salt (12 + (q_told 4)).toNatClampNeg r161))), (ra 5, .inl (kI, 24, .inl (upd q_pace (12 + (q_told 4)).toNatClampNeg r174))), (ra 6, .inl (kI, 24, .inl (upd q_mute (12 + (q_told 4)).toNatClampNeg 0))), (ra 7, .inl (kI, 24, .inl q_late)), (ra 1, .inl (kS, 4, .inr (.inr (.inr (.inr q_kinds))))), (m0, .inr (11, oX11 ra y176)), (ra 13, .inl (kI, 700, .inl q_tape))] H := hPa
            have hD : va_D A [(ra 2, .inl (kI, 8, .inl q_told)), (ra 3, .inl (kI, 24, .inl (upd q_kind (12 + (q_told 4)).toNatClampNeg r19))), (ra 4, .inl (kI, 24, .inl (upd q_salt (12 + (q_told 4)).toNatClampNeg r161))), (ra 5, .inl (kI, 24, .inl (upd q_pace (12 + (q_told 4)).toNatClampNeg r174))), (ra 6, .inl (kI, 24, .inl (upd q_mute (12 + (q_told 4)).toNatClampNeg 0))), (ra 7, .inl (kI, 24, .inl q_late)), (ra 1, .inl (kS, 4, .inr (.inr (.inr (.inr q_kinds))))), (m0, .inr (11, oX11 ra y176)), (ra 13, .inl (kI, 700, .inl q_tape))] := hDa
            clear hPa hDa
            refine lv_aload_n hx hb dX11_readRouter_121 rfl (lv_at hl 2 rfl) ?_
            refine va_get (D := (dC, dI)) (ci := 11) (v := .ref (ra 7)) (C := RX11) (T := TX11) (N := 61) hx hb hts hin11 hown hK hP 7 rfl rfl 8 (Nat.le_of_ble_eq_true rfl) hw_7 (fun _ h9 => h9) rfl dX11_readRouter_122 ?_
            refine lv_iload_n hx hb dX11_readRouter_125 rfl (lv_at hl 1 rfl) ?_
            refine lv_aload_n hx hb dX11_readRouter_126 rfl (lv_at hl 2 rfl) ?_
            refine va_ldcS hx hb hown hKL.2.2.2.2.2.2.2.2.2.2.2.2.2.2.2.2.2.2.2.2.2.2 dX11_readRouter_127 ?_
            obtain ⟨hPc, hDc, hFc, hJn⟩ := cl_a (wc := [(m0, .inr (11, oX11 ra y176)), (ra 13, .inl (kI, 700, .inl q_tape))]) (wr := [(ra 2, .inl (kI, 8, .inl q_told)), (ra 3, .inl (kI, 24, .inl (upd q_kind (12 + (q_told 4)).toNatClampNeg r19))), (ra 4, .inl (kI, 24, .inl (upd q_salt (12 + (q_told 4)).toNatClampNeg r161))), (ra 5, .inl (kI, 24, .inl (upd q_pace (12 + (q_told 4)).toNatClampNeg r174))), (ra 6, .inl (kI, 24, .inl (upd q_mute (12 + (q_told 4)).toNatClampNeg 0))), (ra 7, .inl (kI, 24, .inl q_late)), (ra 1, .inl (kS, 4, .inr (.inr (.inr (.inr q_kinds)))))]) hP hD hS hA [7, 8] [0, 1, 2, 3, 4, 5, 6] rfl rfl (by decide +kernel)
            refine va_calli (va_runV (As := [.ref (adK 9)]) (rest := [.int (12 + (q_told 4)), .ref (ra 7)]) ⟨hx, hb, hml, hown, hts⟩ (s11_is l dC dI kB kI kJ kZ kC kS H.size adK adV m0 ra y176 q_tape 9 tT nN (rtr4 tT nN sS) (hq177) (hq_tape) ((by decide)) (hrr186) (hTQ)) (cwV 1 hts gX11_readRouter_X11_is rfl rfl rfl (by decide +kernel) ⟨Nat.le_of_ble_eq_true rfl, Nat.le_of_ble_eq_true rfl⟩) ⟨fun a U g mk q => by obtain ⟨q0, q1, qP, qE, qD, qL⟩ := q; exact ⟨q0, q1, qP, kE_call qE, qD, kL_call qL⟩, va_recv hK hP (ci := 11) (q0 := 7) rfl rfl, fun U hU hW => ⟨rfl, by rw [hU], by rw [hU]; exact hPc, kE_warm hW hE, hDc.weaken (fun _ _ _ _ => trivial), kL_at hKL hS hFc hW hU⟩⟩ rfl rfl hl.1 rfl (lv_room (Nat.le_of_ble_eq_true rfl)) dX11_readRouter_129 ⟨Nat.le_of_ble_eq_true rfl, Nat.le_of_ble_eq_true rfl⟩) hS (fun q _ h => hFc q h) hFc (fun r192 u t H locs ht hvm w193 hB hz1 hk1 hS => ?_)
            obtain ⟨hP1, hD1⟩ := hB
            try dsimp only at w193
            obtain ⟨hPa, hDa⟩ := hJn (w1 := [(m0, .inr (11, oX11 ra y176)), (ra 13, .inl (kI, 700, .inl q_tape))]) hk1 ht hP1 hD1
            clear hP hD hPc hDc hFc hJn hP1 hD1 hk1
            have hP : va_P (dC, dI) vwCl [(ra 2, .inl (kI, 8, .inl q_told)), (ra 3, .inl (kI, 24, .inl (upd q_kind (12 + (q_told 4)).toNatClampNeg r19))), (ra 4, .inl (kI, 24, .inl (upd q_salt (12 + (q_told 4)).toNatClampNeg r161))), (ra 5, .inl (kI, 24, .inl (upd q_pace (12 + (q_told 4)).toNatClampNeg r174))), (ra 6, .inl (kI, 24, .inl (upd q_mute (12 + (q_told 4)).toNatClampNeg 0))), (ra 7, .inl (kI, 24, .inl q_late)), (ra 1, .inl (kS, 4, .inr (.inr (.inr (.inr q_kinds))))), (m0, .inr (11, oX11 ra y176)), (ra 13, .inl (kI, 700, .inl q_tape))] H := hPa
            have hD : va_D A [(ra 2, .inl (kI, 8, .inl q_told)), (ra 3, .inl (kI, 24, .inl (upd q_kind (12 + (q_told 4)).toNatClampNeg r19))), (ra 4, .inl (kI, 24, .inl (upd q_salt (12 + (q_told 4)).toNatClampNeg r161))), (ra 5, .inl (kI, 24, .inl (upd q_pace (12 + (q_told 4)).toNatClampNeg r174))), (ra 6, .inl (kI, 24, .inl (upd q_mute (12 + (q_told 4)).toNatClampNeg 0))), (ra 7, .inl (kI, 24, .inl q_late)), (ra 1, .inl (kS, 4, .inr (.inr (.inr (.inr q_kinds))))), (m0, .inr (11, oX11 ra y176)), (ra 13, .inl (kI, 700, .inl q_tape))] := hDa
            clear hPa hDa
            refine W.widen (k := 0) (n := 0) (Nat.le_of_ble_eq_true rfl) (Nat.le_of_ble_eq_true rfl) ?_
            obtain ⟨w193, b194⟩ := w193
            subst w193
            refine lv_if_eq (tgt := 139) hx hb dX11_readRouter_132 rfl (fun c195 => ?_) (fun c195 => ?_)
            · have b196 : iv 0 0 (wS tT 9 (rtr4 tT nN sS)) := iv_eqL c195 ivk_0
              refine lv_iconst (v := 0) hx hb dX11_readRouter_139 ic_0 ?_
              refine va_iast hx hb hK hP hD hS 5 1 rfl rfl (iv_in b18 (by decide) (by decide)) dX11_readRouter_140 (fun H locs hPa hDa hS => ?_)
              clear hP hD
              have hP : va_P (dC, dI) vwCl [(ra 2, .inl (kI, 8, .inl q_told)), (ra 3, .inl (kI, 24, .inl (upd q_kind (12 + (q_told 4)).toNatClampNeg r19))), (ra 4, .inl (kI, 24, .inl (upd q_salt (12 + (q_told 4)).toNatClampNeg r161))), (ra 5, .inl (kI, 24, .inl (upd q_pace (12 + (q_told 4)).toNatClampNeg r174))), (ra 6, .inl (kI, 24, .inl (upd q_mute (12 + (q_told 4)).toNatClampNeg 0))), (ra 7, .inl (kI, 24, .inl (upd q_late (12 + (q_told 4)).toNatClampNeg 0))), (ra 1, .inl (kS, 4, .inr (.inr (.inr (.inr q_kinds))))), (m0, .inr (11, oX11 ra y176)), (ra 13, .inl (kI, 700, .inl q_tape))] H := hPa
              have hD : va_D A [(ra 2, .inl (kI, 8, .inl q_told)), (ra 3, .inl (kI, 24, .inl (upd q_kind (12 + (q_told 4)).toNatClampNeg r19))), (ra 4, .inl (kI, 24, .inl (upd q_salt (12 + (q_told 4)).toNatClampNeg r161))), (ra 5, .inl (kI, 24, .inl (upd q_pace (12 + (q_told 4)).toNatClampNeg r174))), (ra 6, .inl (kI, 24, .inl (upd q_mute (12 + (q_told 4)).toNatClampNeg 0))), (ra 7, .inl (kI, 24, .inl (upd q_late (12 + (q_told 4)).toNatClampNeg 0))), (ra 1, .inl (kS, 4, .inr (.inr (.inr (.inr q_kinds))))), (m0, .inr (11, oX11 ra y176)), (ra 13, .inl (kI, 700, .inl q_tape))] := hDa
              clear hPa hDa
              refine lv_aload_n hx hb dX11_readRouter_141 rfl (lv_at hl 2 rfl) ?_
              refine va_get (D := (dC, dI)) (ci := 11) (v := .int (y176 8)) (C := RX11) (T := TX11) (N := 61) hx hb hts hin11 hown hK hP 7 rfl rfl 22 (Nat.le_of_ble_eq_true rfl) hw_1 (fun _ h9 => h9) rfl dX11_readRouter_142 ?_
              refine lv_if_ne (tgt := 168) hx hb dX11_readRouter_145 rfl (fun c197 => ?_) (fun c197 => ?_)
              · have b198 : iv 1 5 (y176 8) := iv_neLo c197 (hq177 8 : iv 0 5 (y176 8)) ivk_0 (by decide) (by decide)
                have hrr199 : RRd tT nN y176 (manT tT nN (rtr4 tT nN sS)) := (mq_b hrr186 c197) ▸ hrr186
                refine lv_aload_n hx hb dX11_readRouter_168 rfl (lv_at hl 2 rfl) ?_
                refine va_get (D := (dC, dI)) (ci := 11) (v := .ref (ra 2)) (C := RX11) (T := TX11) (N := 61) hx hb hts hin11 hown hK hP 7 rfl rfl 3 (Nat.le_of_ble_eq_true rfl) hw_0 (fun _ h9 => h9) rfl dX11_readRouter_169 ?_
                refine lv_iconst (v := 4) hx hb dX11_readRouter_172 ic_4 ?_
                refine lv_dup2_11 hx hb dX11_readRouter_173 rfl rfl ?_
                refine va_iald hx hb hK hP 0 1 rfl rfl (vp_in_nI (n := 4) (by decide) (by decide)) dX11_readRouter_174 ?_
                refine W.eq (g2 := F0 m 175 ls [.int (q_told 4), .int 4, .ref (ra 2)]) rfl ?_
                refine lv_iconst (v := 1) hx hb dX11_readRouter_175 ic_1 ?_
                refine lv_iadd hx hb dX11_readRouter_176 ?_
                have b200 : iv 1 12 ((q_told 4) + 1) := iv_add b2 ivk_1 (by decide) (by decide) (by decide) (by decide)
                refine va_iast hx hb hK hP hD hS 0 1 rfl rfl (vp_in_nI (n := 4) (by decide) (by decide)) dX11_readRouter_177 (fun H locs hPa hDa hS => ?_)
                clear hP hD
                have hP : va_P (dC, dI) vwCl [(ra 2, .inl (kI, 8, .inl (upd q_told 4 ((q_told 4) + 1)))), (ra 3, .inl (kI, 24, .inl (upd q_kind (12 + (q_told 4)).toNatClampNeg r19))), (ra 4, .inl (kI, 24, .inl (upd q_salt (12 + (q_told 4)).toNatClampNeg r161))), (ra 5, .inl (kI, 24, .inl (upd q_pace (12 + (q_told 4)).toNatClampNeg r174))), (ra 6, .inl (kI, 24, .inl (upd q_mute (12 + (q_told 4)).toNatClampNeg 0))), (ra 7, .inl (kI, 24, .inl (upd q_late (12 + (q_told 4)).toNatClampNeg 0))), (ra 1, .inl (kS, 4, .inr (.inr (.inr (.inr q_kinds))))), (m0, .inr (11, oX11 ra y176)), (ra 13, .inl (kI, 700, .inl q_tape))] H := hPa
                have hD : va_D A [(ra 2, .inl (kI, 8, .inl (upd q_told 4 ((q_told 4) + 1)))), (ra 3, .inl (kI, 24, .inl (upd q_kind (12 + (q_told 4)).toNatClampNeg r19))), (ra 4, .inl (kI, 24, .inl (upd q_salt (12 + (q_told 4)).toNatClampNeg r161))), (ra 5, .inl (kI, 24, .inl (upd q_pace (12 + (q_told 4)).toNatClampNeg r174))), (ra 6, .inl (kI, 24, .inl (upd q_mute (12 + (q_told 4)).toNatClampNeg 0))), (ra 7, .inl (kI, 24, .inl (upd q_late (12 + (q_told 4)).toNatClampNeg 0))), (ra 1, .inl (kS, 4, .inr (.inr (.inr (.inr q_kinds))))), (m0, .inr (11, oX11 ra y176)), (ra 13, .inl (kI, 700, .inl q_tape))] := hDa
                clear hPa hDa
                have hPD9 := cl_s (wc := [(m0, .inr (11, oX11 ra y176)), (ra 2, .inl (kI, 8, .inl (upd q_told 4 ((q_told 4) + 1)))), (ra 3, .inl (kI, 24, .inl (upd q_kind (12 + (q_told 4)).toNatClampNeg r19))), (ra 4, .inl (kI, 24, .inl (upd q_salt (12 + (q_told 4)).toNatClampNeg r161))), (ra 5, .inl (kI, 24, .inl (upd q_pace (12 + (q_told 4)).toNatClampNeg r174))), (ra 6, .inl (kI, 24, .inl (upd q_mute (12 + (q_told 4)).toNatClampNeg 0))), (ra 7, .inl (kI, 24, .inl (upd q_late (12 + (q_told 4)).toNatClampNeg 0))), (ra 13, .inl (kI, 700, .inl q_tape)), (ra 1, .inl (kS, 4, .inr (.inr (.inr (.inr q_kinds)))))]) hP hD [7, 0, 1, 2, 3, 4, 5, 8, 6] rfl (by decide +kernel)
                have hP9 := hPD9.1
                have hD9 := hPD9.2
                exact W.vret hx hb hr (fun t ht hW => ⟨⟨(), rfl, trivial, y176, upd q_told 4 ((q_told 4) + 1), upd q_kind (12 + (q_told 4)).toNatClampNeg r19, upd q_salt (12 + (q_told 4)).toNatClampNeg r161, upd q_pace (12 + (q_told 4)).toNatClampNeg r174, upd q_mute (12 + (q_told 4)).toNatClampNeg 0, upd q_late (12 + (q_told 4)).toNatClampNeg 0, hq177, (fI_u hq_told (k := 4) ((iv_w b200 (by decide) (by decide)))), (fI_u hq_salt (k := (12 + (q_told 4)).toNatClampNeg) (w162.1)), (show (x0 2).toInt ≤ (y176 2).toInt from by omega), (show y176 3 = x0 3 from hq179.trans (hq166.trans (hq152.trans (hq10)))), (show ∀ j : Nat, (j : Int) < (q_told 1).toInt → (q_from j).toInt < (q_to j).toInt from hLT), (show ∀ j : Nat, (j : Int) < (q_told 5).toInt → (q_from (20 + j)).toInt < (q_to (20 + j)).toInt from hLD), (show RRd tT nN y176 (rtrS tT nN sS (q_told 4)) from it_f (Q := RRd tT nN y176) c1 (hrr199)), fun w => absurd w c197, low_t (by decide), (show y176 1 = x0 1 from hq181.trans (hq168.trans (hq155.trans (hq13)))), (show y176 10 = x0 10 from hq182.trans (hq169.trans (hq156.trans (hq14)))), (show y176 21 = x0 21 from hq183.trans (hq170.trans (hq157.trans (hq15)))), (show y176 25 = x0 25 from hq184.trans (hq171.trans (hq158.trans (hq16)))), (show y176 23 = x0 23 from hq185.trans (hq172.trans (hq159.trans (hq17)))), by rw [ht]; exact hP9, hD9⟩, hS.F ht⟩) hS.2.2 dX11_readRouter_178
              · have b201 : iv 0 0 (y176 8) := iv_eqL c197 ivk_0
                refine lv_aload_n hx hb dX11_readRouter_148 rfl (lv_at hl 2 rfl) ?_
                refine va_get (D := (dC, dI)) (ci := 11) (v := .ref (ra 6)) (C := RX11) (T := TX11) (N := 61) hx hb hts hin11 hown hK hP 7 rfl rfl 7 (Nat.le_of_ble_eq_true rfl) hw_6 (fun _ h9 => h9) rfl dX11_readRouter_149 ?_
                refine lv_iload_n hx hb dX11_readRouter_152 rfl (lv_at hl 1 rfl) ?_
                refine va_iald hx hb hK hP 4 1 rfl rfl (iv_in b18 (by decide) (by decide)) dX11_readRouter_153 ?_
                refine W.eq (g2 := F0 m 154 ls [.int 0]) (by rw [upd_eq]) ?_
                refine lv_aload_n hx hb dX11_readRouter_154 rfl (lv_at hl 2 rfl) ?_
                refine va_get (D := (dC, dI)) (ci := 11) (v := .ref (ra 7)) (C := RX11) (T := TX11) (N := 61) hx hb hts hin11 hown hK hP 7 rfl rfl 8 (Nat.le_of_ble_eq_true rfl) hw_7 (fun _ h9 => h9) rfl dX11_readRouter_155 ?_
                refine lv_iload_n hx hb dX11_readRouter_158 rfl (lv_at hl 1 rfl) ?_
                refine va_iald hx hb hK hP 5 1 rfl rfl (iv_in b18 (by decide) (by decide)) dX11_readRouter_159 ?_
                refine W.eq (g2 := F0 m 160 ls [.int 0, .int 0]) (by rw [upd_eq]) ?_
                refine lv_iadd hx hb dX11_readRouter_160 ?_
                refine lv_topi (fun z202 e203 => ?_)
                obtain rfl : z202 = (0 : Int32) := e203.trans (by decide)
                refine lv_if_le (tgt := 168) hx hb dX11_readRouter_161 rfl (fun _ => ?_) (fun c9 => absurd (by decide) c9)
                have hrr204 : RRd tT nN y176 (manT tT nN (rtr4 tT nN sS)) := (mq_0 hrr186 c197 c190 c195) ▸ hrr186
                refine lv_aload_n hx hb dX11_readRouter_168 rfl (lv_at hl 2 rfl) ?_
                refine va_get (D := (dC, dI)) (ci := 11) (v := .ref (ra 2)) (C := RX11) (T := TX11) (N := 61) hx hb hts hin11 hown hK hP 7 rfl rfl 3 (Nat.le_of_ble_eq_true rfl) hw_0 (fun _ h9 => h9) rfl dX11_readRouter_169 ?_
                refine lv_iconst (v := 4) hx hb dX11_readRouter_172 ic_4 ?_
                refine lv_dup2_11 hx hb dX11_readRouter_173 rfl rfl ?_
                refine va_iald hx hb hK hP 0 1 rfl rfl (vp_in_nI (n := 4) (by decide) (by decide)) dX11_readRouter_174 ?_
                refine W.eq (g2 := F0 m 175 ls [.int (q_told 4), .int 4, .ref (ra 2)]) rfl ?_
                refine lv_iconst (v := 1) hx hb dX11_readRouter_175 ic_1 ?_
                refine lv_iadd hx hb dX11_readRouter_176 ?_
                have b205 : iv 1 12 ((q_told 4) + 1) := iv_add b2 ivk_1 (by decide) (by decide) (by decide) (by decide)
                refine va_iast hx hb hK hP hD hS 0 1 rfl rfl (vp_in_nI (n := 4) (by decide) (by decide)) dX11_readRouter_177 (fun H locs hPa hDa hS => ?_)
                clear hP hD
                have hP : va_P (dC, dI) vwCl [(ra 2, .inl (kI, 8, .inl (upd q_told 4 ((q_told 4) + 1)))), (ra 3, .inl (kI, 24, .inl (upd q_kind (12 + (q_told 4)).toNatClampNeg r19))), (ra 4, .inl (kI, 24, .inl (upd q_salt (12 + (q_told 4)).toNatClampNeg r161))), (ra 5, .inl (kI, 24, .inl (upd q_pace (12 + (q_told 4)).toNatClampNeg r174))), (ra 6, .inl (kI, 24, .inl (upd q_mute (12 + (q_told 4)).toNatClampNeg 0))), (ra 7, .inl (kI, 24, .inl (upd q_late (12 + (q_told 4)).toNatClampNeg 0))), (ra 1, .inl (kS, 4, .inr (.inr (.inr (.inr q_kinds))))), (m0, .inr (11, oX11 ra y176)), (ra 13, .inl (kI, 700, .inl q_tape))] H := hPa
                have hD : va_D A [(ra 2, .inl (kI, 8, .inl (upd q_told 4 ((q_told 4) + 1)))), (ra 3, .inl (kI, 24, .inl (upd q_kind (12 + (q_told 4)).toNatClampNeg r19))), (ra 4, .inl (kI, 24, .inl (upd q_salt (12 + (q_told 4)).toNatClampNeg r161))), (ra 5, .inl (kI, 24, .inl (upd q_pace (12 + (q_told 4)).toNatClampNeg r174))), (ra 6, .inl (kI, 24, .inl (upd q_mute (12 + (q_told 4)).toNatClampNeg 0))), (ra 7, .inl (kI, 24, .inl (upd q_late (12 + (q_told 4)).toNatClampNeg 0))), (ra 1, .inl (kS, 4, .inr (.inr (.inr (.inr q_kinds))))), (m0, .inr (11, oX11 ra y176)), (ra 13, .inl (kI, 700, .inl q_tape))] := hDa
                clear hPa hDa
                have hPD9 := cl_s (wc := [(m0, .inr (11, oX11 ra y176)), (ra 2, .inl (kI, 8, .inl (upd q_told 4 ((q_told 4) + 1)))), (ra 3, .inl (kI, 24, .inl (upd q_kind (12 + (q_told 4)).toNatClampNeg r19))), (ra 4, .inl (kI, 24, .inl (upd q_salt (12 + (q_told 4)).toNatClampNeg r161))), (ra 5, .inl (kI, 24, .inl (upd q_pace (12 + (q_told 4)).toNatClampNeg r174))), (ra 6, .inl (kI, 24, .inl (upd q_mute (12 + (q_told 4)).toNatClampNeg 0))), (ra 7, .inl (kI, 24, .inl (upd q_late (12 + (q_told 4)).toNatClampNeg 0))), (ra 13, .inl (kI, 700, .inl q_tape)), (ra 1, .inl (kS, 4, .inr (.inr (.inr (.inr q_kinds)))))]) hP hD [7, 0, 1, 2, 3, 4, 5, 8, 6] rfl (by decide +kernel)
                have hP9 := hPD9.1
                have hD9 := hPD9.2
                exact W.vret hx hb hr (fun t ht hW => ⟨⟨(), rfl, trivial, y176, upd q_told 4 ((q_told 4) + 1), upd q_kind (12 + (q_told 4)).toNatClampNeg r19, upd q_salt (12 + (q_told 4)).toNatClampNeg r161, upd q_pace (12 + (q_told 4)).toNatClampNeg r174, upd q_mute (12 + (q_told 4)).toNatClampNeg 0, upd q_late (12 + (q_told 4)).toNatClampNeg 0, hq177, (fI_u hq_told (k := 4) ((iv_w b205 (by decide) (by decide)))), (fI_u hq_salt (k := (12 + (q_told 4)).toNatClampNeg) (w162.1)), (show (x0 2).toInt ≤ (y176 2).toInt from by omega), (show y176 3 = x0 3 from hq179.trans (hq166.trans (hq152.trans (hq10)))), (show ∀ j : Nat, (j : Int) < (q_told 1).toInt → (q_from j).toInt < (q_to j).toInt from hLT), (show ∀ j : Nat, (j : Int) < (q_told 5).toInt → (q_from (20 + j)).toInt < (q_to (20 + j)).toInt from hLD), (show RRd tT nN y176 (rtrS tT nN sS (q_told 4)) from it_f (Q := RRd tT nN y176) c1 (hrr204)), fun _ => ⟨rfl, congrArg (upd q_kind ((12 + (q_told 4)).toNatClampNeg)) ((kq_y hwk c21).2 (ok_next (ok_num (ok_next (ok_num (ok_next (rr_ok hrr186 c197))))))), congrArg (upd q_salt ((12 + (q_told 4)).toNatClampNeg)) (hv2 (ok_next (ok_num (ok_next (rr_ok hrr186 c197))))), congrArg (upd q_pace ((12 + (q_told 4)).toNatClampNeg)) (hv3 (ok_next (rr_ok hrr186 c197))), congrArg (upd q_mute ((12 + (q_told 4)).toNatClampNeg)) c190.symm, congrArg (upd q_late ((12 + (q_told 4)).toNatClampNeg)) c195.symm⟩, low_t (by decide), (show y176 1 = x0 1 from hq181.trans (hq168.trans (hq155.trans (hq13)))), (show y176 10 = x0 10 from hq182.trans (hq169.trans (hq156.trans (hq14)))), (show y176 21 = x0 21 from hq183.trans (hq170.trans (hq157.trans (hq15)))), (show y176 25 = x0 25 from hq184.trans (hq171.trans (hq158.trans (hq16)))), (show y176 23 = x0 23 from hq185.trans (hq172.trans (hq159.trans (hq17)))), by rw [ht]; exact hP9, hD9⟩, hS.F ht⟩) hS.2.2 dX11_readRouter_178
            · have b206 : iv 1 1 (wS tT 9 (rtr4 tT nN sS)) := iv_neLo c195 b194 ivk_0 (by decide) (by decide)
              refine lv_iconst (v := 1) hx hb dX11_readRouter_135 ic_1 ?_
              refine lv_goto (tgt := 140) hx hb dX11_readRouter_136 rfl ?_
              refine va_iast hx hb hK hP hD hS 5 1 rfl rfl (iv_in b18 (by decide) (by decide)) dX11_readRouter_140 (fun H locs hPa hDa hS => ?_)
              clear hP hD
              have hP : va_P (dC, dI) vwCl [(ra 2, .inl (kI, 8, .inl q_told)), (ra 3, .inl (kI, 24, .inl (upd q_kind (12 + (q_told 4)).toNatClampNeg r19))), (ra 4, .inl (kI, 24, .inl (upd q_salt (12 + (q_told 4)).toNatClampNeg r161))), (ra 5, .inl (kI, 24, .inl (upd q_pace (12 + (q_told 4)).toNatClampNeg r174))), (ra 6, .inl (kI, 24, .inl (upd q_mute (12 + (q_told 4)).toNatClampNeg 0))), (ra 7, .inl (kI, 24, .inl (upd q_late (12 + (q_told 4)).toNatClampNeg 1))), (ra 1, .inl (kS, 4, .inr (.inr (.inr (.inr q_kinds))))), (m0, .inr (11, oX11 ra y176)), (ra 13, .inl (kI, 700, .inl q_tape))] H := hPa
              have hD : va_D A [(ra 2, .inl (kI, 8, .inl q_told)), (ra 3, .inl (kI, 24, .inl (upd q_kind (12 + (q_told 4)).toNatClampNeg r19))), (ra 4, .inl (kI, 24, .inl (upd q_salt (12 + (q_told 4)).toNatClampNeg r161))), (ra 5, .inl (kI, 24, .inl (upd q_pace (12 + (q_told 4)).toNatClampNeg r174))), (ra 6, .inl (kI, 24, .inl (upd q_mute (12 + (q_told 4)).toNatClampNeg 0))), (ra 7, .inl (kI, 24, .inl (upd q_late (12 + (q_told 4)).toNatClampNeg 1))), (ra 1, .inl (kS, 4, .inr (.inr (.inr (.inr q_kinds))))), (m0, .inr (11, oX11 ra y176)), (ra 13, .inl (kI, 700, .inl q_tape))] := hDa
              clear hPa hDa
              refine lv_aload_n hx hb dX11_readRouter_141 rfl (lv_at hl 2 rfl) ?_
              refine va_get (D := (dC, dI)) (ci := 11) (v := .int (y176 8)) (C := RX11) (T := TX11) (N := 61) hx hb hts hin11 hown hK hP 7 rfl rfl 22 (Nat.le_of_ble_eq_true rfl) hw_1 (fun _ h9 => h9) rfl dX11_readRouter_142 ?_
              refine lv_if_ne (tgt := 168) hx hb dX11_readRouter_145 rfl (fun c207 => ?_) (fun c207 => ?_)
              · have b208 : iv 1 5 (y176 8) := iv_neLo c207 (hq177 8 : iv 0 5 (y176 8)) ivk_0 (by decide) (by decide)
                have hrr209 : RRd tT nN y176 (manT tT nN (rtr4 tT nN sS)) := (mq_b hrr186 c207) ▸ hrr186
                refine lv_aload_n hx hb dX11_readRouter_168 rfl (lv_at hl 2 rfl) ?_
                refine va_get (D := (dC, dI)) (ci := 11) (v := .ref (ra 2)) (C := RX11) (T := TX11) (N := 61) hx hb hts hin11 hown hK hP 7 rfl rfl 3 (Nat.le_of_ble_eq_true rfl) hw_0 (fun _ h9 => h9) rfl dX11_readRouter_169 ?_
                refine lv_iconst (v := 4) hx hb dX11_readRouter_172 ic_4 ?_
                refine lv_dup2_11 hx hb dX11_readRouter_173 rfl rfl ?_
                refine va_iald hx hb hK hP 0 1 rfl rfl (vp_in_nI (n := 4) (by decide) (by decide)) dX11_readRouter_174 ?_
                refine W.eq (g2 := F0 m 175 ls [.int (q_told 4), .int 4, .ref (ra 2)]) rfl ?_
                refine lv_iconst (v := 1) hx hb dX11_readRouter_175 ic_1 ?_
                refine lv_iadd hx hb dX11_readRouter_176 ?_
                have b210 : iv 1 12 ((q_told 4) + 1) := iv_add b2 ivk_1 (by decide) (by decide) (by decide) (by decide)
                refine va_iast hx hb hK hP hD hS 0 1 rfl rfl (vp_in_nI (n := 4) (by decide) (by decide)) dX11_readRouter_177 (fun H locs hPa hDa hS => ?_)
                clear hP hD
                have hP : va_P (dC, dI) vwCl [(ra 2, .inl (kI, 8, .inl (upd q_told 4 ((q_told 4) + 1)))), (ra 3, .inl (kI, 24, .inl (upd q_kind (12 + (q_told 4)).toNatClampNeg r19))), (ra 4, .inl (kI, 24, .inl (upd q_salt (12 + (q_told 4)).toNatClampNeg r161))), (ra 5, .inl (kI, 24, .inl (upd q_pace (12 + (q_told 4)).toNatClampNeg r174))), (ra 6, .inl (kI, 24, .inl (upd q_mute (12 + (q_told 4)).toNatClampNeg 0))), (ra 7, .inl (kI, 24, .inl (upd q_late (12 + (q_told 4)).toNatClampNeg 1))), (ra 1, .inl (kS, 4, .inr (.inr (.inr (.inr q_kinds))))), (m0, .inr (11, oX11 ra y176)), (ra 13, .inl (kI, 700, .inl q_tape))] H := hPa
                have hD : va_D A [(ra 2, .inl (kI, 8, .inl (upd q_told 4 ((q_told 4) + 1)))), (ra 3, .inl (kI, 24, .inl (upd q_kind (12 + (q_told 4)).toNatClampNeg r19))), (ra 4, .inl (kI, 24, .inl (upd q_salt (12 + (q_told 4)).toNatClampNeg r161))), (ra 5, .inl (kI, 24, .inl (upd q_pace (12 + (q_told 4)).toNatClampNeg r174))), (ra 6, .inl (kI, 24, .inl (upd q_mute (12 + (q_told 4)).toNatClampNeg 0))), (ra 7, .inl (kI, 24, .inl (upd q_late (12 + (q_told 4)).toNatClampNeg 1))), (ra 1, .inl (kS, 4, .inr (.inr (.inr (.inr q_kinds))))), (m0, .inr (11, oX11 ra y176)), (ra 13, .inl (kI, 700, .inl q_tape))] := hDa
                clear hPa hDa
                have hPD9 := cl_s (wc := [(m0, .inr (11, oX11 ra y176)), (ra 2, .inl (kI, 8, .inl (upd q_told 4 ((q_told 4) + 1)))), (ra 3, .inl (kI, 24, .inl (upd q_kind (12 + (q_told 4)).toNatClampNeg r19))), (ra 4, .inl (kI, 24, .inl (upd q_salt (12 + (q_told 4)).toNatClampNeg r161))), (ra 5, .inl (kI, 24, .inl (upd q_pace (12 + (q_told 4)).toNatClampNeg r174))), (ra 6, .inl (kI, 24, .inl (upd q_mute (12 + (q_told 4)).toNatClampNeg 0))), (ra 7, .inl (kI, 24, .inl (upd q_late (12 + (q_told 4)).toNatClampNeg 1))), (ra 13, .inl (kI, 700, .inl q_tape)), (ra 1, .inl (kS, 4, .inr (.inr (.inr (.inr q_kinds)))))]) hP hD [7, 0, 1, 2, 3, 4, 5, 8, 6] rfl (by decide +kernel)
                have hP9 := hPD9.1
                have hD9 := hPD9.2
                exact W.vret hx hb hr (fun t ht hW => ⟨⟨(), rfl, trivial, y176, upd q_told 4 ((q_told 4) + 1), upd q_kind (12 + (q_told 4)).toNatClampNeg r19, upd q_salt (12 + (q_told 4)).toNatClampNeg r161, upd q_pace (12 + (q_told 4)).toNatClampNeg r174, upd q_mute (12 + (q_told 4)).toNatClampNeg 0, upd q_late (12 + (q_told 4)).toNatClampNeg 1, hq177, (fI_u hq_told (k := 4) ((iv_w b210 (by decide) (by decide)))), (fI_u hq_salt (k := (12 + (q_told 4)).toNatClampNeg) (w162.1)), (show (x0 2).toInt ≤ (y176 2).toInt from by omega), (show y176 3 = x0 3 from hq179.trans (hq166.trans (hq152.trans (hq10)))), (show ∀ j : Nat, (j : Int) < (q_told 1).toInt → (q_from j).toInt < (q_to j).toInt from hLT), (show ∀ j : Nat, (j : Int) < (q_told 5).toInt → (q_from (20 + j)).toInt < (q_to (20 + j)).toInt from hLD), (show RRd tT nN y176 (rtrS tT nN sS (q_told 4)) from it_f (Q := RRd tT nN y176) c1 (hrr209)), fun w => absurd w c207, low_t (by decide), (show y176 1 = x0 1 from hq181.trans (hq168.trans (hq155.trans (hq13)))), (show y176 10 = x0 10 from hq182.trans (hq169.trans (hq156.trans (hq14)))), (show y176 21 = x0 21 from hq183.trans (hq170.trans (hq157.trans (hq15)))), (show y176 25 = x0 25 from hq184.trans (hq171.trans (hq158.trans (hq16)))), (show y176 23 = x0 23 from hq185.trans (hq172.trans (hq159.trans (hq17)))), by rw [ht]; exact hP9, hD9⟩, hS.F ht⟩) hS.2.2 dX11_readRouter_178
              · have b211 : iv 0 0 (y176 8) := iv_eqL c207 ivk_0
                refine lv_aload_n hx hb dX11_readRouter_148 rfl (lv_at hl 2 rfl) ?_
                refine va_get (D := (dC, dI)) (ci := 11) (v := .ref (ra 6)) (C := RX11) (T := TX11) (N := 61) hx hb hts hin11 hown hK hP 7 rfl rfl 7 (Nat.le_of_ble_eq_true rfl) hw_6 (fun _ h9 => h9) rfl dX11_readRouter_149 ?_
                refine lv_iload_n hx hb dX11_readRouter_152 rfl (lv_at hl 1 rfl) ?_
                refine va_iald hx hb hK hP 4 1 rfl rfl (iv_in b18 (by decide) (by decide)) dX11_readRouter_153 ?_
                refine W.eq (g2 := F0 m 154 ls [.int 0]) (by rw [upd_eq]) ?_
                refine lv_aload_n hx hb dX11_readRouter_154 rfl (lv_at hl 2 rfl) ?_
                refine va_get (D := (dC, dI)) (ci := 11) (v := .ref (ra 7)) (C := RX11) (T := TX11) (N := 61) hx hb hts hin11 hown hK hP 7 rfl rfl 8 (Nat.le_of_ble_eq_true rfl) hw_7 (fun _ h9 => h9) rfl dX11_readRouter_155 ?_
                refine lv_iload_n hx hb dX11_readRouter_158 rfl (lv_at hl 1 rfl) ?_
                refine va_iald hx hb hK hP 5 1 rfl rfl (iv_in b18 (by decide) (by decide)) dX11_readRouter_159 ?_
                refine W.eq (g2 := F0 m 160 ls [.int 1, .int 0]) (by rw [upd_eq]) ?_
                refine lv_iadd hx hb dX11_readRouter_160 ?_
                refine lv_topi (fun z212 e213 => ?_)
                obtain rfl : z212 = (1 : Int32) := e213.trans (by decide)
                refine lv_if_le (tgt := 168) hx hb dX11_readRouter_161 rfl (fun c9 => absurd c9 (by decide)) (fun _ => ?_)
                refine lv_aload_n hx hb dX11_readRouter_164 rfl (lv_at hl 2 rfl) ?_
                obtain ⟨hPc, hDc, hFc, hJn⟩ := cl_a (wc := [(m0, .inr (11, oX11 ra y176)), (ra 13, .inl (kI, 700, .inl q_tape))]) (wr := [(ra 2, .inl (kI, 8, .inl q_told)), (ra 3, .inl (kI, 24, .inl (upd q_kind (12 + (q_told 4)).toNatClampNeg r19))), (ra 4, .inl (kI, 24, .inl (upd q_salt (12 + (q_told 4)).toNatClampNeg r161))), (ra 5, .inl (kI, 24, .inl (upd q_pace (12 + (q_told 4)).toNatClampNeg r174))), (ra 6, .inl (kI, 24, .inl (upd q_mute (12 + (q_told 4)).toNatClampNeg 0))), (ra 7, .inl (kI, 24, .inl (upd q_late (12 + (q_told 4)).toNatClampNeg 1))), (ra 1, .inl (kS, 4, .inr (.inr (.inr (.inr q_kinds)))))]) hP hD hS hA [7, 8] [0, 1, 2, 3, 4, 5, 6] rfl rfl (by decide +kernel)
                refine va_callv (va_runV (As := []) (rest := []) ⟨hx, hb, hml, hown, hts⟩ (s11_stepOn l dC dI kB kI kJ kZ kC kS H.size m0 ra y176 q_tape tT nN (nextT tT nN (rtr4 tT nN sS)) (hq177) (hq_tape) (hrr186.2) (stp_of hrr186) (hTQ)) (cwV 0 hts gX11_readRouter_X11_stepOn rfl rfl rfl (by decide +kernel) ⟨Nat.le_of_ble_eq_true rfl, Nat.le_of_ble_eq_true rfl⟩) ⟨fun a U g mk q => by obtain ⟨q0, q1, qP, qE, qD⟩ := q; exact ⟨q0, q1, qP, kE_call qE, qD⟩, va_recv hK hP (ci := 11) (q0 := 7) rfl rfl, fun U hU hW => ⟨rfl, by rw [hU], by rw [hU]; exact hPc, kE_warm hW hE, hDc.weaken (fun _ _ _ _ => trivial)⟩⟩ rfl rfl hl.1 rfl (lv_room (Nat.le_of_ble_eq_true rfl)) dX11_readRouter_165 ⟨Nat.le_of_ble_eq_true rfl, Nat.le_of_ble_eq_true rfl⟩) hS (fun q _ h => hFc q h) hFc (fun u t H locs ht hvm w215 hB hz1 hk1 hS => ?_)
                obtain ⟨y216, hq217, hq218, hq219, hq220, hq221, hq222, hq223, hq224, hq225, hq226, hP1, hD1⟩ := hB
                try dsimp only at w215
                obtain ⟨hPa, hDa⟩ := hJn (w1 := [(m0, .inr (11, oX11 ra y216)), (ra 13, .inl (kI, 700, .inl q_tape))]) hk1 ht hP1 hD1
                clear hP hD hPc hDc hFc hJn hP1 hD1 hk1
                have hP : va_P (dC, dI) vwCl [(ra 2, .inl (kI, 8, .inl q_told)), (ra 3, .inl (kI, 24, .inl (upd q_kind (12 + (q_told 4)).toNatClampNeg r19))), (ra 4, .inl (kI, 24, .inl (upd q_salt (12 + (q_told 4)).toNatClampNeg r161))), (ra 5, .inl (kI, 24, .inl (upd q_pace (12 + (q_told 4)).toNatClampNeg r174))), (ra 6, .inl (kI, 24, .inl (upd q_mute (12 + (q_told 4)).toNatClampNeg 0))), (ra 7, .inl (kI, 24, .inl (upd q_late (12 + (q_told 4)).toNatClampNeg 1))), (ra 1, .inl (kS, 4, .inr (.inr (.inr (.inr q_kinds))))), (m0, .inr (11, oX11 ra y216)), (ra 13, .inl (kI, 700, .inl q_tape))] H := hPa
                have hD : va_D A [(ra 2, .inl (kI, 8, .inl q_told)), (ra 3, .inl (kI, 24, .inl (upd q_kind (12 + (q_told 4)).toNatClampNeg r19))), (ra 4, .inl (kI, 24, .inl (upd q_salt (12 + (q_told 4)).toNatClampNeg r161))), (ra 5, .inl (kI, 24, .inl (upd q_pace (12 + (q_told 4)).toNatClampNeg r174))), (ra 6, .inl (kI, 24, .inl (upd q_mute (12 + (q_told 4)).toNatClampNeg 0))), (ra 7, .inl (kI, 24, .inl (upd q_late (12 + (q_told 4)).toNatClampNeg 1))), (ra 1, .inl (kS, 4, .inr (.inr (.inr (.inr q_kinds))))), (m0, .inr (11, oX11 ra y216)), (ra 13, .inl (kI, 700, .inl q_tape))] := hDa
                clear hPa hDa
                refine W.widen (k := 0) (n := 0) (Nat.le_of_ble_eq_true rfl) (Nat.le_of_ble_eq_true rfl) ?_
                have hrr227 : RRd tT nN y216 (manT tT nN (rtr4 tT nN sS)) := (mq_s hrr186 c207 (Or.inr c195)) ▸ hq221
                refine lv_aload_n hx hb dX11_readRouter_168 rfl (lv_at hl 2 rfl) ?_
                refine va_get (D := (dC, dI)) (ci := 11) (v := .ref (ra 2)) (C := RX11) (T := TX11) (N := 61) hx hb hts hin11 hown hK hP 7 rfl rfl 3 (Nat.le_of_ble_eq_true rfl) hw_0 (fun _ h9 => h9) rfl dX11_readRouter_169 ?_
                refine lv_iconst (v := 4) hx hb dX11_readRouter_172 ic_4 ?_
                refine lv_dup2_11 hx hb dX11_readRouter_173 rfl rfl ?_
                refine va_iald hx hb hK hP 0 1 rfl rfl (vp_in_nI (n := 4) (by decide) (by decide)) dX11_readRouter_174 ?_
                refine W.eq (g2 := F0 m 175 ls [.int (q_told 4), .int 4, .ref (ra 2)]) rfl ?_
                refine lv_iconst (v := 1) hx hb dX11_readRouter_175 ic_1 ?_
                refine lv_iadd hx hb dX11_readRouter_176 ?_
                have b228 : iv 1 12 ((q_told 4) + 1) := iv_add b2 ivk_1 (by decide) (by decide) (by decide) (by decide)
                refine va_iast hx hb hK hP hD hS 0 1 rfl rfl (vp_in_nI (n := 4) (by decide) (by decide)) dX11_readRouter_177 (fun H locs hPa hDa hS => ?_)
                clear hP hD
                have hP : va_P (dC, dI) vwCl [(ra 2, .inl (kI, 8, .inl (upd q_told 4 ((q_told 4) + 1)))), (ra 3, .inl (kI, 24, .inl (upd q_kind (12 + (q_told 4)).toNatClampNeg r19))), (ra 4, .inl (kI, 24, .inl (upd q_salt (12 + (q_told 4)).toNatClampNeg r161))), (ra 5, .inl (kI, 24, .inl (upd q_pace (12 + (q_told 4)).toNatClampNeg r174))), (ra 6, .inl (kI, 24, .inl (upd q_mute (12 + (q_told 4)).toNatClampNeg 0))), (ra 7, .inl (kI, 24, .inl (upd q_late (12 + (q_told 4)).toNatClampNeg 1))), (ra 1, .inl (kS, 4, .inr (.inr (.inr (.inr q_kinds))))), (m0, .inr (11, oX11 ra y216)), (ra 13, .inl (kI, 700, .inl q_tape))] H := hPa
                have hD : va_D A [(ra 2, .inl (kI, 8, .inl (upd q_told 4 ((q_told 4) + 1)))), (ra 3, .inl (kI, 24, .inl (upd q_kind (12 + (q_told 4)).toNatClampNeg r19))), (ra 4, .inl (kI, 24, .inl (upd q_salt (12 + (q_told 4)).toNatClampNeg r161))), (ra 5, .inl (kI, 24, .inl (upd q_pace (12 + (q_told 4)).toNatClampNeg r174))), (ra 6, .inl (kI, 24, .inl (upd q_mute (12 + (q_told 4)).toNatClampNeg 0))), (ra 7, .inl (kI, 24, .inl (upd q_late (12 + (q_told 4)).toNatClampNeg 1))), (ra 1, .inl (kS, 4, .inr (.inr (.inr (.inr q_kinds))))), (m0, .inr (11, oX11 ra y216)), (ra 13, .inl (kI, 700, .inl q_tape))] := hDa
                clear hPa hDa
                have hPD9 := cl_s (wc := [(m0, .inr (11, oX11 ra y216)), (ra 2, .inl (kI, 8, .inl (upd q_told 4 ((q_told 4) + 1)))), (ra 3, .inl (kI, 24, .inl (upd q_kind (12 + (q_told 4)).toNatClampNeg r19))), (ra 4, .inl (kI, 24, .inl (upd q_salt (12 + (q_told 4)).toNatClampNeg r161))), (ra 5, .inl (kI, 24, .inl (upd q_pace (12 + (q_told 4)).toNatClampNeg r174))), (ra 6, .inl (kI, 24, .inl (upd q_mute (12 + (q_told 4)).toNatClampNeg 0))), (ra 7, .inl (kI, 24, .inl (upd q_late (12 + (q_told 4)).toNatClampNeg 1))), (ra 13, .inl (kI, 700, .inl q_tape)), (ra 1, .inl (kS, 4, .inr (.inr (.inr (.inr q_kinds)))))]) hP hD [7, 0, 1, 2, 3, 4, 5, 8, 6] rfl (by decide +kernel)
                have hP9 := hPD9.1
                have hD9 := hPD9.2
                exact W.vret hx hb hr (fun t ht hW => ⟨⟨(), rfl, trivial, y216, upd q_told 4 ((q_told 4) + 1), upd q_kind (12 + (q_told 4)).toNatClampNeg r19, upd q_salt (12 + (q_told 4)).toNatClampNeg r161, upd q_pace (12 + (q_told 4)).toNatClampNeg r174, upd q_mute (12 + (q_told 4)).toNatClampNeg 0, upd q_late (12 + (q_told 4)).toNatClampNeg 1, hq217, (fI_u hq_told (k := 4) ((iv_w b228 (by decide) (by decide)))), (fI_u hq_salt (k := (12 + (q_told 4)).toNatClampNeg) (w162.1)), (show (x0 2).toInt ≤ (y216 2).toInt from by omega), (show y216 3 = x0 3 from hq219.trans (hq179.trans (hq166.trans (hq152.trans (hq10))))), (show ∀ j : Nat, (j : Int) < (q_told 1).toInt → (q_from j).toInt < (q_to j).toInt from hLT), (show ∀ j : Nat, (j : Int) < (q_told 5).toInt → (q_from (20 + j)).toInt < (q_to (20 + j)).toInt from hLD), (show RRd tT nN y216 (rtrS tT nN sS (q_told 4)) from it_f (Q := RRd tT nN y216) c1 (hrr227)), fun _ => ⟨rfl, congrArg (upd q_kind ((12 + (q_told 4)).toNatClampNeg)) ((kq_y hwk c21).2 (ok_next (ok_num (ok_next (ok_num (ok_next (rr_ok hrr186 c207))))))), congrArg (upd q_salt ((12 + (q_told 4)).toNatClampNeg)) (hv2 (ok_next (ok_num (ok_next (rr_ok hrr186 c207))))), congrArg (upd q_pace ((12 + (q_told 4)).toNatClampNeg)) (hv3 (ok_next (rr_ok hrr186 c207))), congrArg (upd q_mute ((12 + (q_told 4)).toNatClampNeg)) c190.symm, congrArg (upd q_late ((12 + (q_told 4)).toNatClampNeg)) (wS_1 c195)⟩, low_t (by decide), (show y216 1 = x0 1 from hq222.trans (hq181.trans (hq168.trans (hq155.trans (hq13))))), (show y216 10 = x0 10 from hq223.trans (hq182.trans (hq169.trans (hq156.trans (hq14))))), (show y216 21 = x0 21 from hq224.trans (hq183.trans (hq170.trans (hq157.trans (hq15))))), (show y216 25 = x0 25 from hq225.trans (hq184.trans (hq171.trans (hq158.trans (hq16))))), (show y216 23 = x0 23 from hq226.trans (hq185.trans (hq172.trans (hq159.trans (hq17))))), by rw [ht]; exact hP9, hD9⟩, hS.F ht⟩) hS.2.2 dX11_readRouter_178
          · have b229 : iv 1 1 (wS tT 8 (rtr4 tT nN sS)) := iv_neLo c190 b189 ivk_0 (by decide) (by decide)
            refine lv_iconst (v := 1) hx hb dX11_readRouter_115 ic_1 ?_
            refine lv_goto (tgt := 120) hx hb dX11_readRouter_116 rfl ?_
            refine va_iast hx hb hK hP hD hS 4 1 rfl rfl (iv_in b18 (by decide) (by decide)) dX11_readRouter_120 (fun H locs hPa hDa hS => ?_)
            clear hP hD
            have hP : va_P (dC, dI) vwCl [(ra 2, .inl (kI, 8, .inl q_told)), (ra 3, .inl (kI, 24, .inl (upd q_kind (12 + (q_told 4)).toNatClampNeg r19))), (ra 4, .inl (kI, 24, .inl (upd q_salt (12 + (q_told 4)).toNatClampNeg r161))), (ra 5, .inl (kI, 24, .inl (upd q_pace (12 + (q_told 4)).toNatClampNeg r174))), (ra 6, .inl (kI, 24, .inl (upd q_mute (12 + (q_told 4)).toNatClampNeg 1))), (ra 7, .inl (kI, 24, .inl q_late)), (ra 1, .inl (kS, 4, .inr (.inr (.inr (.inr q_kinds))))), (m0, .inr (11, oX11 ra y176)), (ra 13, .inl (kI, 700, .inl q_tape))] H := hPa
            have hD : va_D A [(ra 2, .inl (kI, 8, .inl q_told)), (ra 3, .inl (kI, 24, .inl (upd q_kind (12 + (q_told 4)).toNatClampNeg r19))), (ra 4, .inl (kI, 24, .inl (upd q_salt (12 + (q_told 4)).toNatClampNeg r161))), (ra 5, .inl (kI, 24, .inl (upd q_pace (12 + (q_told 4)).toNatClampNeg r174))), (ra 6, .inl (kI, 24, .inl (upd q_mute (12 + (q_told 4)).toNatClampNeg 1))), (ra 7, .inl (kI, 24, .inl q_late)), (ra 1, .inl (kS, 4, .inr (.inr (.inr (.inr q_kinds))))), (m0, .inr (11, oX11 ra y176)), (ra 13, .inl (kI, 700, .inl q_tape))] := hDa
            clear hPa hDa
            refine lv_aload_n hx hb dX11_readRouter_121 rfl (lv_at hl 2 rfl) ?_
            refine va_get (D := (dC, dI)) (ci := 11) (v := .ref (ra 7)) (C := RX11) (T := TX11) (N := 61) hx hb hts hin11 hown hK hP 7 rfl rfl 8 (Nat.le_of_ble_eq_true rfl) hw_7 (fun _ h9 => h9) rfl dX11_readRouter_122 ?_
            refine lv_iload_n hx hb dX11_readRouter_125 rfl (lv_at hl 1 rfl) ?_
            refine lv_aload_n hx hb dX11_readRouter_126 rfl (lv_at hl 2 rfl) ?_
            refine va_ldcS hx hb hown hKL.2.2.2.2.2.2.2.2.2.2.2.2.2.2.2.2.2.2.2.2.2.2 dX11_readRouter_127 ?_
            obtain ⟨hPc, hDc, hFc, hJn⟩ := cl_a (wc := [(m0, .inr (11, oX11 ra y176)), (ra 13, .inl (kI, 700, .inl q_tape))]) (wr := [(ra 2, .inl (kI, 8, .inl q_told)), (ra 3, .inl (kI, 24, .inl (upd q_kind (12 + (q_told 4)).toNatClampNeg r19))), (ra 4, .inl (kI, 24, .inl (upd q_salt (12 + (q_told 4)).toNatClampNeg r161))), (ra 5, .inl (kI, 24, .inl (upd q_pace (12 + (q_told 4)).toNatClampNeg r174))), (ra 6, .inl (kI, 24, .inl (upd q_mute (12 + (q_told 4)).toNatClampNeg 1))), (ra 7, .inl (kI, 24, .inl q_late)), (ra 1, .inl (kS, 4, .inr (.inr (.inr (.inr q_kinds)))))]) hP hD hS hA [7, 8] [0, 1, 2, 3, 4, 5, 6] rfl rfl (by decide +kernel)
            refine va_calli (va_runV (As := [.ref (adK 9)]) (rest := [.int (12 + (q_told 4)), .ref (ra 7)]) ⟨hx, hb, hml, hown, hts⟩ (s11_is l dC dI kB kI kJ kZ kC kS H.size adK adV m0 ra y176 q_tape 9 tT nN (rtr4 tT nN sS) (hq177) (hq_tape) ((by decide)) (hrr186) (hTQ)) (cwV 1 hts gX11_readRouter_X11_is rfl rfl rfl (by decide +kernel) ⟨Nat.le_of_ble_eq_true rfl, Nat.le_of_ble_eq_true rfl⟩) ⟨fun a U g mk q => by obtain ⟨q0, q1, qP, qE, qD, qL⟩ := q; exact ⟨q0, q1, qP, kE_call qE, qD, kL_call qL⟩, va_recv hK hP (ci := 11) (q0 := 7) rfl rfl, fun U hU hW => ⟨rfl, by rw [hU], by rw [hU]; exact hPc, kE_warm hW hE, hDc.weaken (fun _ _ _ _ => trivial), kL_at hKL hS hFc hW hU⟩⟩ rfl rfl hl.1 rfl (lv_room (Nat.le_of_ble_eq_true rfl)) dX11_readRouter_129 ⟨Nat.le_of_ble_eq_true rfl, Nat.le_of_ble_eq_true rfl⟩) hS (fun q _ h => hFc q h) hFc (fun r230 u t H locs ht hvm w231 hB hz1 hk1 hS => ?_)
            obtain ⟨hP1, hD1⟩ := hB
            try dsimp only at w231
            obtain ⟨hPa, hDa⟩ := hJn (w1 := [(m0, .inr (11, oX11 ra y176)), (ra 13, .inl (kI, 700, .inl q_tape))]) hk1 ht hP1 hD1
            clear hP hD hPc hDc hFc hJn hP1 hD1 hk1
            have hP : va_P (dC, dI) vwCl [(ra 2, .inl (kI, 8, .inl q_told)), (ra 3, .inl (kI, 24, .inl (upd q_kind (12 + (q_told 4)).toNatClampNeg r19))), (ra 4, .inl (kI, 24, .inl (upd q_salt (12 + (q_told 4)).toNatClampNeg r161))), (ra 5, .inl (kI, 24, .inl (upd q_pace (12 + (q_told 4)).toNatClampNeg r174))), (ra 6, .inl (kI, 24, .inl (upd q_mute (12 + (q_told 4)).toNatClampNeg 1))), (ra 7, .inl (kI, 24, .inl q_late)), (ra 1, .inl (kS, 4, .inr (.inr (.inr (.inr q_kinds))))), (m0, .inr (11, oX11 ra y176)), (ra 13, .inl (kI, 700, .inl q_tape))] H := hPa
            have hD : va_D A [(ra 2, .inl (kI, 8, .inl q_told)), (ra 3, .inl (kI, 24, .inl (upd q_kind (12 + (q_told 4)).toNatClampNeg r19))), (ra 4, .inl (kI, 24, .inl (upd q_salt (12 + (q_told 4)).toNatClampNeg r161))), (ra 5, .inl (kI, 24, .inl (upd q_pace (12 + (q_told 4)).toNatClampNeg r174))), (ra 6, .inl (kI, 24, .inl (upd q_mute (12 + (q_told 4)).toNatClampNeg 1))), (ra 7, .inl (kI, 24, .inl q_late)), (ra 1, .inl (kS, 4, .inr (.inr (.inr (.inr q_kinds))))), (m0, .inr (11, oX11 ra y176)), (ra 13, .inl (kI, 700, .inl q_tape))] := hDa
            clear hPa hDa
            refine W.widen (k := 0) (n := 0) (Nat.le_of_ble_eq_true rfl) (Nat.le_of_ble_eq_true rfl) ?_
            obtain ⟨w231, b232⟩ := w231
            subst w231
            refine lv_if_eq (tgt := 139) hx hb dX11_readRouter_132 rfl (fun c233 => ?_) (fun c233 => ?_)
            · have b234 : iv 0 0 (wS tT 9 (rtr4 tT nN sS)) := iv_eqL c233 ivk_0
              refine lv_iconst (v := 0) hx hb dX11_readRouter_139 ic_0 ?_
              refine va_iast hx hb hK hP hD hS 5 1 rfl rfl (iv_in b18 (by decide) (by decide)) dX11_readRouter_140 (fun H locs hPa hDa hS => ?_)
              clear hP hD
              have hP : va_P (dC, dI) vwCl [(ra 2, .inl (kI, 8, .inl q_told)), (ra 3, .inl (kI, 24, .inl (upd q_kind (12 + (q_told 4)).toNatClampNeg r19))), (ra 4, .inl (kI, 24, .inl (upd q_salt (12 + (q_told 4)).toNatClampNeg r161))), (ra 5, .inl (kI, 24, .inl (upd q_pace (12 + (q_told 4)).toNatClampNeg r174))), (ra 6, .inl (kI, 24, .inl (upd q_mute (12 + (q_told 4)).toNatClampNeg 1))), (ra 7, .inl (kI, 24, .inl (upd q_late (12 + (q_told 4)).toNatClampNeg 0))), (ra 1, .inl (kS, 4, .inr (.inr (.inr (.inr q_kinds))))), (m0, .inr (11, oX11 ra y176)), (ra 13, .inl (kI, 700, .inl q_tape))] H := hPa
              have hD : va_D A [(ra 2, .inl (kI, 8, .inl q_told)), (ra 3, .inl (kI, 24, .inl (upd q_kind (12 + (q_told 4)).toNatClampNeg r19))), (ra 4, .inl (kI, 24, .inl (upd q_salt (12 + (q_told 4)).toNatClampNeg r161))), (ra 5, .inl (kI, 24, .inl (upd q_pace (12 + (q_told 4)).toNatClampNeg r174))), (ra 6, .inl (kI, 24, .inl (upd q_mute (12 + (q_told 4)).toNatClampNeg 1))), (ra 7, .inl (kI, 24, .inl (upd q_late (12 + (q_told 4)).toNatClampNeg 0))), (ra 1, .inl (kS, 4, .inr (.inr (.inr (.inr q_kinds))))), (m0, .inr (11, oX11 ra y176)), (ra 13, .inl (kI, 700, .inl q_tape))] := hDa
              clear hPa hDa
              refine lv_aload_n hx hb dX11_readRouter_141 rfl (lv_at hl 2 rfl) ?_
              refine va_get (D := (dC, dI)) (ci := 11) (v := .int (y176 8)) (C := RX11) (T := TX11) (N := 61) hx hb hts hin11 hown hK hP 7 rfl rfl 22 (Nat.le_of_ble_eq_true rfl) hw_1 (fun _ h9 => h9) rfl dX11_readRouter_142 ?_
              refine lv_if_ne (tgt := 168) hx hb dX11_readRouter_145 rfl (fun c235 => ?_) (fun c235 => ?_)
              · have b236 : iv 1 5 (y176 8) := iv_neLo c235 (hq177 8 : iv 0 5 (y176 8)) ivk_0 (by decide) (by decide)
                have hrr237 : RRd tT nN y176 (manT tT nN (rtr4 tT nN sS)) := (mq_b hrr186 c235) ▸ hrr186
                refine lv_aload_n hx hb dX11_readRouter_168 rfl (lv_at hl 2 rfl) ?_
                refine va_get (D := (dC, dI)) (ci := 11) (v := .ref (ra 2)) (C := RX11) (T := TX11) (N := 61) hx hb hts hin11 hown hK hP 7 rfl rfl 3 (Nat.le_of_ble_eq_true rfl) hw_0 (fun _ h9 => h9) rfl dX11_readRouter_169 ?_
                refine lv_iconst (v := 4) hx hb dX11_readRouter_172 ic_4 ?_
                refine lv_dup2_11 hx hb dX11_readRouter_173 rfl rfl ?_
                refine va_iald hx hb hK hP 0 1 rfl rfl (vp_in_nI (n := 4) (by decide) (by decide)) dX11_readRouter_174 ?_
                refine W.eq (g2 := F0 m 175 ls [.int (q_told 4), .int 4, .ref (ra 2)]) rfl ?_
                refine lv_iconst (v := 1) hx hb dX11_readRouter_175 ic_1 ?_
                refine lv_iadd hx hb dX11_readRouter_176 ?_
                have b238 : iv 1 12 ((q_told 4) + 1) := iv_add b2 ivk_1 (by decide) (by decide) (by decide) (by decide)
                refine va_iast hx hb hK hP hD hS 0 1 rfl rfl (vp_in_nI (n := 4) (by decide) (by decide)) dX11_readRouter_177 (fun H locs hPa hDa hS => ?_)
                clear hP hD
                have hP : va_P (dC, dI) vwCl [(ra 2, .inl (kI, 8, .inl (upd q_told 4 ((q_told 4) + 1)))), (ra 3, .inl (kI, 24, .inl (upd q_kind (12 + (q_told 4)).toNatClampNeg r19))), (ra 4, .inl (kI, 24, .inl (upd q_salt (12 + (q_told 4)).toNatClampNeg r161))), (ra 5, .inl (kI, 24, .inl (upd q_pace (12 + (q_told 4)).toNatClampNeg r174))), (ra 6, .inl (kI, 24, .inl (upd q_mute (12 + (q_told 4)).toNatClampNeg 1))), (ra 7, .inl (kI, 24, .inl (upd q_late (12 + (q_told 4)).toNatClampNeg 0))), (ra 1, .inl (kS, 4, .inr (.inr (.inr (.inr q_kinds))))), (m0, .inr (11, oX11 ra y176)), (ra 13, .inl (kI, 700, .inl q_tape))] H := hPa
                have hD : va_D A [(ra 2, .inl (kI, 8, .inl (upd q_told 4 ((q_told 4) + 1)))), (ra 3, .inl (kI, 24, .inl (upd q_kind (12 + (q_told 4)).toNatClampNeg r19))), (ra 4, .inl (kI, 24, .inl (upd q_salt (12 + (q_told 4)).toNatClampNeg r161))), (ra 5, .inl (kI, 24, .inl (upd q_pace (12 + (q_told 4)).toNatClampNeg r174))), (ra 6, .inl (kI, 24, .inl (upd q_mute (12 + (q_told 4)).toNatClampNeg 1))), (ra 7, .inl (kI, 24, .inl (upd q_late (12 + (q_told 4)).toNatClampNeg 0))), (ra 1, .inl (kS, 4, .inr (.inr (.inr (.inr q_kinds))))), (m0, .inr (11, oX11 ra y176)), (ra 13, .inl (kI, 700, .inl q_tape))] := hDa
                clear hPa hDa
                have hPD9 := cl_s (wc := [(m0, .inr (11, oX11 ra y176)), (ra 2, .inl (kI, 8, .inl (upd q_told 4 ((q_told 4) + 1)))), (ra 3, .inl (kI, 24, .inl (upd q_kind (12 + (q_told 4)).toNatClampNeg r19))), (ra 4, .inl (kI, 24, .inl (upd q_salt (12 + (q_told 4)).toNatClampNeg r161))), (ra 5, .inl (kI, 24, .inl (upd q_pace (12 + (q_told 4)).toNatClampNeg r174))), (ra 6, .inl (kI, 24, .inl (upd q_mute (12 + (q_told 4)).toNatClampNeg 1))), (ra 7, .inl (kI, 24, .inl (upd q_late (12 + (q_told 4)).toNatClampNeg 0))), (ra 13, .inl (kI, 700, .inl q_tape)), (ra 1, .inl (kS, 4, .inr (.inr (.inr (.inr q_kinds)))))]) hP hD [7, 0, 1, 2, 3, 4, 5, 8, 6] rfl (by decide +kernel)
                have hP9 := hPD9.1
                have hD9 := hPD9.2
                exact W.vret hx hb hr (fun t ht hW => ⟨⟨(), rfl, trivial, y176, upd q_told 4 ((q_told 4) + 1), upd q_kind (12 + (q_told 4)).toNatClampNeg r19, upd q_salt (12 + (q_told 4)).toNatClampNeg r161, upd q_pace (12 + (q_told 4)).toNatClampNeg r174, upd q_mute (12 + (q_told 4)).toNatClampNeg 1, upd q_late (12 + (q_told 4)).toNatClampNeg 0, hq177, (fI_u hq_told (k := 4) ((iv_w b238 (by decide) (by decide)))), (fI_u hq_salt (k := (12 + (q_told 4)).toNatClampNeg) (w162.1)), (show (x0 2).toInt ≤ (y176 2).toInt from by omega), (show y176 3 = x0 3 from hq179.trans (hq166.trans (hq152.trans (hq10)))), (show ∀ j : Nat, (j : Int) < (q_told 1).toInt → (q_from j).toInt < (q_to j).toInt from hLT), (show ∀ j : Nat, (j : Int) < (q_told 5).toInt → (q_from (20 + j)).toInt < (q_to (20 + j)).toInt from hLD), (show RRd tT nN y176 (rtrS tT nN sS (q_told 4)) from it_f (Q := RRd tT nN y176) c1 (hrr237)), fun w => absurd w c235, low_t (by decide), (show y176 1 = x0 1 from hq181.trans (hq168.trans (hq155.trans (hq13)))), (show y176 10 = x0 10 from hq182.trans (hq169.trans (hq156.trans (hq14)))), (show y176 21 = x0 21 from hq183.trans (hq170.trans (hq157.trans (hq15)))), (show y176 25 = x0 25 from hq184.trans (hq171.trans (hq158.trans (hq16)))), (show y176 23 = x0 23 from hq185.trans (hq172.trans (hq159.trans (hq17)))), by rw [ht]; exact hP9, hD9⟩, hS.F ht⟩) hS.2.2 dX11_readRouter_178
              · have b239 : iv 0 0 (y176 8) := iv_eqL c235 ivk_0
                refine lv_aload_n hx hb dX11_readRouter_148 rfl (lv_at hl 2 rfl) ?_
                refine va_get (D := (dC, dI)) (ci := 11) (v := .ref (ra 6)) (C := RX11) (T := TX11) (N := 61) hx hb hts hin11 hown hK hP 7 rfl rfl 7 (Nat.le_of_ble_eq_true rfl) hw_6 (fun _ h9 => h9) rfl dX11_readRouter_149 ?_
                refine lv_iload_n hx hb dX11_readRouter_152 rfl (lv_at hl 1 rfl) ?_
                refine va_iald hx hb hK hP 4 1 rfl rfl (iv_in b18 (by decide) (by decide)) dX11_readRouter_153 ?_
                refine W.eq (g2 := F0 m 154 ls [.int 1]) (by rw [upd_eq]) ?_
                refine lv_aload_n hx hb dX11_readRouter_154 rfl (lv_at hl 2 rfl) ?_
                refine va_get (D := (dC, dI)) (ci := 11) (v := .ref (ra 7)) (C := RX11) (T := TX11) (N := 61) hx hb hts hin11 hown hK hP 7 rfl rfl 8 (Nat.le_of_ble_eq_true rfl) hw_7 (fun _ h9 => h9) rfl dX11_readRouter_155 ?_
                refine lv_iload_n hx hb dX11_readRouter_158 rfl (lv_at hl 1 rfl) ?_
                refine va_iald hx hb hK hP 5 1 rfl rfl (iv_in b18 (by decide) (by decide)) dX11_readRouter_159 ?_
                refine W.eq (g2 := F0 m 160 ls [.int 0, .int 1]) (by rw [upd_eq]) ?_
                refine lv_iadd hx hb dX11_readRouter_160 ?_
                refine lv_topi (fun z240 e241 => ?_)
                obtain rfl : z240 = (1 : Int32) := e241.trans (by decide)
                refine lv_if_le (tgt := 168) hx hb dX11_readRouter_161 rfl (fun c9 => absurd c9 (by decide)) (fun _ => ?_)
                refine lv_aload_n hx hb dX11_readRouter_164 rfl (lv_at hl 2 rfl) ?_
                obtain ⟨hPc, hDc, hFc, hJn⟩ := cl_a (wc := [(m0, .inr (11, oX11 ra y176)), (ra 13, .inl (kI, 700, .inl q_tape))]) (wr := [(ra 2, .inl (kI, 8, .inl q_told)), (ra 3, .inl (kI, 24, .inl (upd q_kind (12 + (q_told 4)).toNatClampNeg r19))), (ra 4, .inl (kI, 24, .inl (upd q_salt (12 + (q_told 4)).toNatClampNeg r161))), (ra 5, .inl (kI, 24, .inl (upd q_pace (12 + (q_told 4)).toNatClampNeg r174))), (ra 6, .inl (kI, 24, .inl (upd q_mute (12 + (q_told 4)).toNatClampNeg 1))), (ra 7, .inl (kI, 24, .inl (upd q_late (12 + (q_told 4)).toNatClampNeg 0))), (ra 1, .inl (kS, 4, .inr (.inr (.inr (.inr q_kinds)))))]) hP hD hS hA [7, 8] [0, 1, 2, 3, 4, 5, 6] rfl rfl (by decide +kernel)
                refine va_callv (va_runV (As := []) (rest := []) ⟨hx, hb, hml, hown, hts⟩ (s11_stepOn l dC dI kB kI kJ kZ kC kS H.size m0 ra y176 q_tape tT nN (nextT tT nN (rtr4 tT nN sS)) (hq177) (hq_tape) (hrr186.2) (stp_of hrr186) (hTQ)) (cwV 0 hts gX11_readRouter_X11_stepOn rfl rfl rfl (by decide +kernel) ⟨Nat.le_of_ble_eq_true rfl, Nat.le_of_ble_eq_true rfl⟩) ⟨fun a U g mk q => by obtain ⟨q0, q1, qP, qE, qD⟩ := q; exact ⟨q0, q1, qP, kE_call qE, qD⟩, va_recv hK hP (ci := 11) (q0 := 7) rfl rfl, fun U hU hW => ⟨rfl, by rw [hU], by rw [hU]; exact hPc, kE_warm hW hE, hDc.weaken (fun _ _ _ _ => trivial)⟩⟩ rfl rfl hl.1 rfl (lv_room (Nat.le_of_ble_eq_true rfl)) dX11_readRouter_165 ⟨Nat.le_of_ble_eq_true rfl, Nat.le_of_ble_eq_true rfl⟩) hS (fun q _ h => hFc q h) hFc (fun u t H locs ht hvm w243 hB hz1 hk1 hS => ?_)
                obtain ⟨y244, hq245, hq246, hq247, hq248, hq249, hq250, hq251, hq252, hq253, hq254, hP1, hD1⟩ := hB
                try dsimp only at w243
                obtain ⟨hPa, hDa⟩ := hJn (w1 := [(m0, .inr (11, oX11 ra y244)), (ra 13, .inl (kI, 700, .inl q_tape))]) hk1 ht hP1 hD1
                clear hP hD hPc hDc hFc hJn hP1 hD1 hk1
                have hP : va_P (dC, dI) vwCl [(ra 2, .inl (kI, 8, .inl q_told)), (ra 3, .inl (kI, 24, .inl (upd q_kind (12 + (q_told 4)).toNatClampNeg r19))), (ra 4, .inl (kI, 24, .inl (upd q_salt (12 + (q_told 4)).toNatClampNeg r161))), (ra 5, .inl (kI, 24, .inl (upd q_pace (12 + (q_told 4)).toNatClampNeg r174))), (ra 6, .inl (kI, 24, .inl (upd q_mute (12 + (q_told 4)).toNatClampNeg 1))), (ra 7, .inl (kI, 24, .inl (upd q_late (12 + (q_told 4)).toNatClampNeg 0))), (ra 1, .inl (kS, 4, .inr (.inr (.inr (.inr q_kinds))))), (m0, .inr (11, oX11 ra y244)), (ra 13, .inl (kI, 700, .inl q_tape))] H := hPa
                have hD : va_D A [(ra 2, .inl (kI, 8, .inl q_told)), (ra 3, .inl (kI, 24, .inl (upd q_kind (12 + (q_told 4)).toNatClampNeg r19))), (ra 4, .inl (kI, 24, .inl (upd q_salt (12 + (q_told 4)).toNatClampNeg r161))), (ra 5, .inl (kI, 24, .inl (upd q_pace (12 + (q_told 4)).toNatClampNeg r174))), (ra 6, .inl (kI, 24, .inl (upd q_mute (12 + (q_told 4)).toNatClampNeg 1))), (ra 7, .inl (kI, 24, .inl (upd q_late (12 + (q_told 4)).toNatClampNeg 0))), (ra 1, .inl (kS, 4, .inr (.inr (.inr (.inr q_kinds))))), (m0, .inr (11, oX11 ra y244)), (ra 13, .inl (kI, 700, .inl q_tape))] := hDa
                clear hPa hDa
                refine W.widen (k := 0) (n := 0) (Nat.le_of_ble_eq_true rfl) (Nat.le_of_ble_eq_true rfl) ?_
                have hrr255 : RRd tT nN y244 (manT tT nN (rtr4 tT nN sS)) := (mq_s hrr186 c235 (Or.inl c190)) ▸ hq249
                refine lv_aload_n hx hb dX11_readRouter_168 rfl (lv_at hl 2 rfl) ?_
                refine va_get (D := (dC, dI)) (ci := 11) (v := .ref (ra 2)) (C := RX11) (T := TX11) (N := 61) hx hb hts hin11 hown hK hP 7 rfl rfl 3 (Nat.le_of_ble_eq_true rfl) hw_0 (fun _ h9 => h9) rfl dX11_readRouter_169 ?_
                refine lv_iconst (v := 4) hx hb dX11_readRouter_172 ic_4 ?_
                refine lv_dup2_11 hx hb dX11_readRouter_173 rfl rfl ?_
                refine va_iald hx hb hK hP 0 1 rfl rfl (vp_in_nI (n := 4) (by decide) (by decide)) dX11_readRouter_174 ?_
                refine W.eq (g2 := F0 m 175 ls [.int (q_told 4), .int 4, .ref (ra 2)]) rfl ?_
                refine lv_iconst (v := 1) hx hb dX11_readRouter_175 ic_1 ?_
                refine lv_iadd hx hb dX11_readRouter_176 ?_
                have b256 : iv 1 12 ((q_told 4) + 1) := iv_add b2 ivk_1 (by decide) (by decide) (by decide) (by decide)
                refine va_iast hx hb hK hP hD hS 0 1 rfl rfl (vp_in_nI (n := 4) (by decide) (by decide)) dX11_readRouter_177 (fun H locs hPa hDa hS => ?_)
                clear hP hD
                have hP : va_P (dC, dI) vwCl [(ra 2, .inl (kI, 8, .inl (upd q_told 4 ((q_told 4) + 1)))), (ra 3, .inl (kI, 24, .inl (upd q_kind (12 + (q_told 4)).toNatClampNeg r19))), (ra 4, .inl (kI, 24, .inl (upd q_salt (12 + (q_told 4)).toNatClampNeg r161))), (ra 5, .inl (kI, 24, .inl (upd q_pace (12 + (q_told 4)).toNatClampNeg r174))), (ra 6, .inl (kI, 24, .inl (upd q_mute (12 + (q_told 4)).toNatClampNeg 1))), (ra 7, .inl (kI, 24, .inl (upd q_late (12 + (q_told 4)).toNatClampNeg 0))), (ra 1, .inl (kS, 4, .inr (.inr (.inr (.inr q_kinds))))), (m0, .inr (11, oX11 ra y244)), (ra 13, .inl (kI, 700, .inl q_tape))] H := hPa
                have hD : va_D A [(ra 2, .inl (kI, 8, .inl (upd q_told 4 ((q_told 4) + 1)))), (ra 3, .inl (kI, 24, .inl (upd q_kind (12 + (q_told 4)).toNatClampNeg r19))), (ra 4, .inl (kI, 24, .inl (upd q_salt (12 + (q_told 4)).toNatClampNeg r161))), (ra 5, .inl (kI, 24, .inl (upd q_pace (12 + (q_told 4)).toNatClampNeg r174))), (ra 6, .inl (kI, 24, .inl (upd q_mute (12 + (q_told 4)).toNatClampNeg 1))), (ra 7, .inl (kI, 24, .inl (upd q_late (12 + (q_told 4)).toNatClampNeg 0))), (ra 1, .inl (kS, 4, .inr (.inr (.inr (.inr q_kinds))))), (m0, .inr (11, oX11 ra y244)), (ra 13, .inl (kI, 700, .inl q_tape))] := hDa
                clear hPa hDa
                have hPD9 := cl_s (wc := [(m0, .inr (11, oX11 ra y244)), (ra 2, .inl (kI, 8, .inl (upd q_told 4 ((q_told 4) + 1)))), (ra 3, .inl (kI, 24, .inl (upd q_kind (12 + (q_told 4)).toNatClampNeg r19))), (ra 4, .inl (kI, 24, .inl (upd q_salt (12 + (q_told 4)).toNatClampNeg r161))), (ra 5, .inl (kI, 24, .inl (upd q_pace (12 + (q_told 4)).toNatClampNeg r174))), (ra 6, .inl (kI, 24, .inl (upd q_mute (12 + (q_told 4)).toNatClampNeg 1))), (ra 7, .inl (kI, 24, .inl (upd q_late (12 + (q_told 4)).toNatClampNeg 0))), (ra 13, .inl (kI, 700, .inl q_tape)), (ra 1, .inl (kS, 4, .inr (.inr (.inr (.inr q_kinds)))))]) hP hD [7, 0, 1, 2, 3, 4, 5, 8, 6] rfl (by decide +kernel)
                have hP9 := hPD9.1
                have hD9 := hPD9.2
                exact W.vret hx hb hr (fun t ht hW => ⟨⟨(), rfl, trivial, y244, upd q_told 4 ((q_told 4) + 1), upd q_kind (12 + (q_told 4)).toNatClampNeg r19, upd q_salt (12 + (q_told 4)).toNatClampNeg r161, upd q_pace (12 + (q_told 4)).toNatClampNeg r174, upd q_mute (12 + (q_told 4)).toNatClampNeg 1, upd q_late (12 + (q_told 4)).toNatClampNeg 0, hq245, (fI_u hq_told (k := 4) ((iv_w b256 (by decide) (by decide)))), (fI_u hq_salt (k := (12 + (q_told 4)).toNatClampNeg) (w162.1)), (show (x0 2).toInt ≤ (y244 2).toInt from by omega), (show y244 3 = x0 3 from hq247.trans (hq179.trans (hq166.trans (hq152.trans (hq10))))), (show ∀ j : Nat, (j : Int) < (q_told 1).toInt → (q_from j).toInt < (q_to j).toInt from hLT), (show ∀ j : Nat, (j : Int) < (q_told 5).toInt → (q_from (20 + j)).toInt < (q_to (20 + j)).toInt from hLD), (show RRd tT nN y244 (rtrS tT nN sS (q_told 4)) from it_f (Q := RRd tT nN y244) c1 (hrr255)), fun _ => ⟨rfl, congrArg (upd q_kind ((12 + (q_told 4)).toNatClampNeg)) ((kq_y hwk c21).2 (ok_next (ok_num (ok_next (ok_num (ok_next (rr_ok hrr186 c235))))))), congrArg (upd q_salt ((12 + (q_told 4)).toNatClampNeg)) (hv2 (ok_next (ok_num (ok_next (rr_ok hrr186 c235))))), congrArg (upd q_pace ((12 + (q_told 4)).toNatClampNeg)) (hv3 (ok_next (rr_ok hrr186 c235))), congrArg (upd q_mute ((12 + (q_told 4)).toNatClampNeg)) (wS_1 c190), congrArg (upd q_late ((12 + (q_told 4)).toNatClampNeg)) c233.symm⟩, low_t (by decide), (show y244 1 = x0 1 from hq250.trans (hq181.trans (hq168.trans (hq155.trans (hq13))))), (show y244 10 = x0 10 from hq251.trans (hq182.trans (hq169.trans (hq156.trans (hq14))))), (show y244 21 = x0 21 from hq252.trans (hq183.trans (hq170.trans (hq157.trans (hq15))))), (show y244 25 = x0 25 from hq253.trans (hq184.trans (hq171.trans (hq158.trans (hq16))))), (show y244 23 = x0 23 from hq254.trans (hq185.trans (hq172.trans (hq159.trans (hq17))))), by rw [ht]; exact hP9, hD9⟩, hS.F ht⟩) hS.2.2 dX11_readRouter_178
            · have b257 : iv 1 1 (wS tT 9 (rtr4 tT nN sS)) := iv_neLo c233 b232 ivk_0 (by decide) (by decide)
              refine lv_iconst (v := 1) hx hb dX11_readRouter_135 ic_1 ?_
              refine lv_goto (tgt := 140) hx hb dX11_readRouter_136 rfl ?_
              refine va_iast hx hb hK hP hD hS 5 1 rfl rfl (iv_in b18 (by decide) (by decide)) dX11_readRouter_140 (fun H locs hPa hDa hS => ?_)
              clear hP hD
              have hP : va_P (dC, dI) vwCl [(ra 2, .inl (kI, 8, .inl q_told)), (ra 3, .inl (kI, 24, .inl (upd q_kind (12 + (q_told 4)).toNatClampNeg r19))), (ra 4, .inl (kI, 24, .inl (upd q_salt (12 + (q_told 4)).toNatClampNeg r161))), (ra 5, .inl (kI, 24, .inl (upd q_pace (12 + (q_told 4)).toNatClampNeg r174))), (ra 6, .inl (kI, 24, .inl (upd q_mute (12 + (q_told 4)).toNatClampNeg 1))), (ra 7, .inl (kI, 24, .inl (upd q_late (12 + (q_told 4)).toNatClampNeg 1))), (ra 1, .inl (kS, 4, .inr (.inr (.inr (.inr q_kinds))))), (m0, .inr (11, oX11 ra y176)), (ra 13, .inl (kI, 700, .inl q_tape))] H := hPa
              have hD : va_D A [(ra 2, .inl (kI, 8, .inl q_told)), (ra 3, .inl (kI, 24, .inl (upd q_kind (12 + (q_told 4)).toNatClampNeg r19))), (ra 4, .inl (kI, 24, .inl (upd q_salt (12 + (q_told 4)).toNatClampNeg r161))), (ra 5, .inl (kI, 24, .inl (upd q_pace (12 + (q_told 4)).toNatClampNeg r174))), (ra 6, .inl (kI, 24, .inl (upd q_mute (12 + (q_told 4)).toNatClampNeg 1))), (ra 7, .inl (kI, 24, .inl (upd q_late (12 + (q_told 4)).toNatClampNeg 1))), (ra 1, .inl (kS, 4, .inr (.inr (.inr (.inr q_kinds))))), (m0, .inr (11, oX11 ra y176)), (ra 13, .inl (kI, 700, .inl q_tape))] := hDa
              clear hPa hDa
              refine lv_aload_n hx hb dX11_readRouter_141 rfl (lv_at hl 2 rfl) ?_
              refine va_get (D := (dC, dI)) (ci := 11) (v := .int (y176 8)) (C := RX11) (T := TX11) (N := 61) hx hb hts hin11 hown hK hP 7 rfl rfl 22 (Nat.le_of_ble_eq_true rfl) hw_1 (fun _ h9 => h9) rfl dX11_readRouter_142 ?_
              refine lv_if_ne (tgt := 168) hx hb dX11_readRouter_145 rfl (fun c258 => ?_) (fun c258 => ?_)
              · have b259 : iv 1 5 (y176 8) := iv_neLo c258 (hq177 8 : iv 0 5 (y176 8)) ivk_0 (by decide) (by decide)
                have hrr260 : RRd tT nN y176 (manT tT nN (rtr4 tT nN sS)) := (mq_b hrr186 c258) ▸ hrr186
                refine lv_aload_n hx hb dX11_readRouter_168 rfl (lv_at hl 2 rfl) ?_
                refine va_get (D := (dC, dI)) (ci := 11) (v := .ref (ra 2)) (C := RX11) (T := TX11) (N := 61) hx hb hts hin11 hown hK hP 7 rfl rfl 3 (Nat.le_of_ble_eq_true rfl) hw_0 (fun _ h9 => h9) rfl dX11_readRouter_169 ?_
                refine lv_iconst (v := 4) hx hb dX11_readRouter_172 ic_4 ?_
                refine lv_dup2_11 hx hb dX11_readRouter_173 rfl rfl ?_
                refine va_iald hx hb hK hP 0 1 rfl rfl (vp_in_nI (n := 4) (by decide) (by decide)) dX11_readRouter_174 ?_
                refine W.eq (g2 := F0 m 175 ls [.int (q_told 4), .int 4, .ref (ra 2)]) rfl ?_
                refine lv_iconst (v := 1) hx hb dX11_readRouter_175 ic_1 ?_
                refine lv_iadd hx hb dX11_readRouter_176 ?_
                have b261 : iv 1 12 ((q_told 4) + 1) := iv_add b2 ivk_1 (by decide) (by decide) (by decide) (by decide)
                refine va_iast hx hb hK hP hD hS 0 1 rfl rfl (vp_in_nI (n := 4) (by decide) (by decide)) dX11_readRouter_177 (fun H locs hPa hDa hS => ?_)
                clear hP hD
                have hP : va_P (dC, dI) vwCl [(ra 2, .inl (kI, 8, .inl (upd q_told 4 ((q_told 4) + 1)))), (ra 3, .inl (kI, 24, .inl (upd q_kind (12 + (q_told 4)).toNatClampNeg r19))), (ra 4, .inl (kI, 24, .inl (upd q_salt (12 + (q_told 4)).toNatClampNeg r161))), (ra 5, .inl (kI, 24, .inl (upd q_pace (12 + (q_told 4)).toNatClampNeg r174))), (ra 6, .inl (kI, 24, .inl (upd q_mute (12 + (q_told 4)).toNatClampNeg 1))), (ra 7, .inl (kI, 24, .inl (upd q_late (12 + (q_told 4)).toNatClampNeg 1))), (ra 1, .inl (kS, 4, .inr (.inr (.inr (.inr q_kinds))))), (m0, .inr (11, oX11 ra y176)), (ra 13, .inl (kI, 700, .inl q_tape))] H := hPa
                have hD : va_D A [(ra 2, .inl (kI, 8, .inl (upd q_told 4 ((q_told 4) + 1)))), (ra 3, .inl (kI, 24, .inl (upd q_kind (12 + (q_told 4)).toNatClampNeg r19))), (ra 4, .inl (kI, 24, .inl (upd q_salt (12 + (q_told 4)).toNatClampNeg r161))), (ra 5, .inl (kI, 24, .inl (upd q_pace (12 + (q_told 4)).toNatClampNeg r174))), (ra 6, .inl (kI, 24, .inl (upd q_mute (12 + (q_told 4)).toNatClampNeg 1))), (ra 7, .inl (kI, 24, .inl (upd q_late (12 + (q_told 4)).toNatClampNeg 1))), (ra 1, .inl (kS, 4, .inr (.inr (.inr (.inr q_kinds))))), (m0, .inr (11, oX11 ra y176)), (ra 13, .inl (kI, 700, .inl q_tape))] := hDa
                clear hPa hDa
                have hPD9 := cl_s (wc := [(m0, .inr (11, oX11 ra y176)), (ra 2, .inl (kI, 8, .inl (upd q_told 4 ((q_told 4) + 1)))), (ra 3, .inl (kI, 24, .inl (upd q_kind (12 + (q_told 4)).toNatClampNeg r19))), (ra 4, .inl (kI, 24, .inl (upd q_salt (12 + (q_told 4)).toNatClampNeg r161))), (ra 5, .inl (kI, 24, .inl (upd q_pace (12 + (q_told 4)).toNatClampNeg r174))), (ra 6, .inl (kI, 24, .inl (upd q_mute (12 + (q_told 4)).toNatClampNeg 1))), (ra 7, .inl (kI, 24, .inl (upd q_late (12 + (q_told 4)).toNatClampNeg 1))), (ra 13, .inl (kI, 700, .inl q_tape)), (ra 1, .inl (kS, 4, .inr (.inr (.inr (.inr q_kinds)))))]) hP hD [7, 0, 1, 2, 3, 4, 5, 8, 6] rfl (by decide +kernel)
                have hP9 := hPD9.1
                have hD9 := hPD9.2
                exact W.vret hx hb hr (fun t ht hW => ⟨⟨(), rfl, trivial, y176, upd q_told 4 ((q_told 4) + 1), upd q_kind (12 + (q_told 4)).toNatClampNeg r19, upd q_salt (12 + (q_told 4)).toNatClampNeg r161, upd q_pace (12 + (q_told 4)).toNatClampNeg r174, upd q_mute (12 + (q_told 4)).toNatClampNeg 1, upd q_late (12 + (q_told 4)).toNatClampNeg 1, hq177, (fI_u hq_told (k := 4) ((iv_w b261 (by decide) (by decide)))), (fI_u hq_salt (k := (12 + (q_told 4)).toNatClampNeg) (w162.1)), (show (x0 2).toInt ≤ (y176 2).toInt from by omega), (show y176 3 = x0 3 from hq179.trans (hq166.trans (hq152.trans (hq10)))), (show ∀ j : Nat, (j : Int) < (q_told 1).toInt → (q_from j).toInt < (q_to j).toInt from hLT), (show ∀ j : Nat, (j : Int) < (q_told 5).toInt → (q_from (20 + j)).toInt < (q_to (20 + j)).toInt from hLD), (show RRd tT nN y176 (rtrS tT nN sS (q_told 4)) from it_f (Q := RRd tT nN y176) c1 (hrr260)), fun w => absurd w c258, low_t (by decide), (show y176 1 = x0 1 from hq181.trans (hq168.trans (hq155.trans (hq13)))), (show y176 10 = x0 10 from hq182.trans (hq169.trans (hq156.trans (hq14)))), (show y176 21 = x0 21 from hq183.trans (hq170.trans (hq157.trans (hq15)))), (show y176 25 = x0 25 from hq184.trans (hq171.trans (hq158.trans (hq16)))), (show y176 23 = x0 23 from hq185.trans (hq172.trans (hq159.trans (hq17)))), by rw [ht]; exact hP9, hD9⟩, hS.F ht⟩) hS.2.2 dX11_readRouter_178
              · have b262 : iv 0 0 (y176 8) := iv_eqL c258 ivk_0
                refine lv_aload_n hx hb dX11_readRouter_148 rfl (lv_at hl 2 rfl) ?_
                refine va_get (D := (dC, dI)) (ci := 11) (v := .ref (ra 6)) (C := RX11) (T := TX11) (N := 61) hx hb hts hin11 hown hK hP 7 rfl rfl 7 (Nat.le_of_ble_eq_true rfl) hw_6 (fun _ h9 => h9) rfl dX11_readRouter_149 ?_
                refine lv_iload_n hx hb dX11_readRouter_152 rfl (lv_at hl 1 rfl) ?_
                refine va_iald hx hb hK hP 4 1 rfl rfl (iv_in b18 (by decide) (by decide)) dX11_readRouter_153 ?_
                refine W.eq (g2 := F0 m 154 ls [.int 1]) (by rw [upd_eq]) ?_
                refine lv_aload_n hx hb dX11_readRouter_154 rfl (lv_at hl 2 rfl) ?_
                refine va_get (D := (dC, dI)) (ci := 11) (v := .ref (ra 7)) (C := RX11) (T := TX11) (N := 61) hx hb hts hin11 hown hK hP 7 rfl rfl 8 (Nat.le_of_ble_eq_true rfl) hw_7 (fun _ h9 => h9) rfl dX11_readRouter_155 ?_
                refine lv_iload_n hx hb dX11_readRouter_158 rfl (lv_at hl 1 rfl) ?_
                refine va_iald hx hb hK hP 5 1 rfl rfl (iv_in b18 (by decide) (by decide)) dX11_readRouter_159 ?_
                refine W.eq (g2 := F0 m 160 ls [.int 1, .int 1]) (by rw [upd_eq]) ?_
                refine lv_iadd hx hb dX11_readRouter_160 ?_
                refine lv_topi (fun z263 e264 => ?_)
                obtain rfl : z263 = (2 : Int32) := e264.trans (by decide)
                refine lv_if_le (tgt := 168) hx hb dX11_readRouter_161 rfl (fun c9 => absurd c9 (by decide)) (fun _ => ?_)
                refine lv_aload_n hx hb dX11_readRouter_164 rfl (lv_at hl 2 rfl) ?_
                obtain ⟨hPc, hDc, hFc, hJn⟩ := cl_a (wc := [(m0, .inr (11, oX11 ra y176)), (ra 13, .inl (kI, 700, .inl q_tape))]) (wr := [(ra 2, .inl (kI, 8, .inl q_told)), (ra 3, .inl (kI, 24, .inl (upd q_kind (12 + (q_told 4)).toNatClampNeg r19))), (ra 4, .inl (kI, 24, .inl (upd q_salt (12 + (q_told 4)).toNatClampNeg r161))), (ra 5, .inl (kI, 24, .inl (upd q_pace (12 + (q_told 4)).toNatClampNeg r174))), (ra 6, .inl (kI, 24, .inl (upd q_mute (12 + (q_told 4)).toNatClampNeg 1))), (ra 7, .inl (kI, 24, .inl (upd q_late (12 + (q_told 4)).toNatClampNeg 1))), (ra 1, .inl (kS, 4, .inr (.inr (.inr (.inr q_kinds)))))]) hP hD hS hA [7, 8] [0, 1, 2, 3, 4, 5, 6] rfl rfl (by decide +kernel)
                refine va_callv (va_runV (As := []) (rest := []) ⟨hx, hb, hml, hown, hts⟩ (s11_stepOn l dC dI kB kI kJ kZ kC kS H.size m0 ra y176 q_tape tT nN (nextT tT nN (rtr4 tT nN sS)) (hq177) (hq_tape) (hrr186.2) (stp_of hrr186) (hTQ)) (cwV 0 hts gX11_readRouter_X11_stepOn rfl rfl rfl (by decide +kernel) ⟨Nat.le_of_ble_eq_true rfl, Nat.le_of_ble_eq_true rfl⟩) ⟨fun a U g mk q => by obtain ⟨q0, q1, qP, qE, qD⟩ := q; exact ⟨q0, q1, qP, kE_call qE, qD⟩, va_recv hK hP (ci := 11) (q0 := 7) rfl rfl, fun U hU hW => ⟨rfl, by rw [hU], by rw [hU]; exact hPc, kE_warm hW hE, hDc.weaken (fun _ _ _ _ => trivial)⟩⟩ rfl rfl hl.1 rfl (lv_room (Nat.le_of_ble_eq_true rfl)) dX11_readRouter_165 ⟨Nat.le_of_ble_eq_true rfl, Nat.le_of_ble_eq_true rfl⟩) hS (fun q _ h => hFc q h) hFc (fun u t H locs ht hvm w266 hB hz1 hk1 hS => ?_)
                obtain ⟨y267, hq268, hq269, hq270, hq271, hq272, hq273, hq274, hq275, hq276, hq277, hP1, hD1⟩ := hB
                try dsimp only at w266
                obtain ⟨hPa, hDa⟩ := hJn (w1 := [(m0, .inr (11, oX11 ra y267)), (ra 13, .inl (kI, 700, .inl q_tape))]) hk1 ht hP1 hD1
                clear hP hD hPc hDc hFc hJn hP1 hD1 hk1
                have hP : va_P (dC, dI) vwCl [(ra 2, .inl (kI, 8, .inl q_told)), (ra 3, .inl (kI, 24, .inl (upd q_kind (12 + (q_told 4)).toNatClampNeg r19))), (ra 4, .inl (kI, 24, .inl (upd q_salt (12 + (q_told 4)).toNatClampNeg r161))), (ra 5, .inl (kI, 24, .inl (upd q_pace (12 + (q_told 4)).toNatClampNeg r174))), (ra 6, .inl (kI, 24, .inl (upd q_mute (12 + (q_told 4)).toNatClampNeg 1))), (ra 7, .inl (kI, 24, .inl (upd q_late (12 + (q_told 4)).toNatClampNeg 1))), (ra 1, .inl (kS, 4, .inr (.inr (.inr (.inr q_kinds))))), (m0, .inr (11, oX11 ra y267)), (ra 13, .inl (kI, 700, .inl q_tape))] H := hPa
                have hD : va_D A [(ra 2, .inl (kI, 8, .inl q_told)), (ra 3, .inl (kI, 24, .inl (upd q_kind (12 + (q_told 4)).toNatClampNeg r19))), (ra 4, .inl (kI, 24, .inl (upd q_salt (12 + (q_told 4)).toNatClampNeg r161))), (ra 5, .inl (kI, 24, .inl (upd q_pace (12 + (q_told 4)).toNatClampNeg r174))), (ra 6, .inl (kI, 24, .inl (upd q_mute (12 + (q_told 4)).toNatClampNeg 1))), (ra 7, .inl (kI, 24, .inl (upd q_late (12 + (q_told 4)).toNatClampNeg 1))), (ra 1, .inl (kS, 4, .inr (.inr (.inr (.inr q_kinds))))), (m0, .inr (11, oX11 ra y267)), (ra 13, .inl (kI, 700, .inl q_tape))] := hDa
                clear hPa hDa
                refine W.widen (k := 0) (n := 0) (Nat.le_of_ble_eq_true rfl) (Nat.le_of_ble_eq_true rfl) ?_
                have hrr278 : RRd tT nN y267 (manT tT nN (rtr4 tT nN sS)) := (mq_s hrr186 c258 (Or.inl c190)) ▸ hq272
                refine lv_aload_n hx hb dX11_readRouter_168 rfl (lv_at hl 2 rfl) ?_
                refine va_get (D := (dC, dI)) (ci := 11) (v := .ref (ra 2)) (C := RX11) (T := TX11) (N := 61) hx hb hts hin11 hown hK hP 7 rfl rfl 3 (Nat.le_of_ble_eq_true rfl) hw_0 (fun _ h9 => h9) rfl dX11_readRouter_169 ?_
                refine lv_iconst (v := 4) hx hb dX11_readRouter_172 ic_4 ?_
                refine lv_dup2_11 hx hb dX11_readRouter_173 rfl rfl ?_
                refine va_iald hx hb hK hP 0 1 rfl rfl (vp_in_nI (n := 4) (by decide) (by decide)) dX11_readRouter_174 ?_
                refine W.eq (g2 := F0 m 175 ls [.int (q_told 4), .int 4, .ref (ra 2)]) rfl ?_
                refine lv_iconst (v := 1) hx hb dX11_readRouter_175 ic_1 ?_
                refine lv_iadd hx hb dX11_readRouter_176 ?_
                have b279 : iv 1 12 ((q_told 4) + 1) := iv_add b2 ivk_1 (by decide) (by decide) (by decide) (by decide)
                refine va_iast hx hb hK hP hD hS 0 1 rfl rfl (vp_in_nI (n := 4) (by decide) (by decide)) dX11_readRouter_177 (fun H locs hPa hDa hS => ?_)
                clear hP hD
                have hP : va_P (dC, dI) vwCl [(ra 2, .inl (kI, 8, .inl (upd q_told 4 ((q_told 4) + 1)))), (ra 3, .inl (kI, 24, .inl (upd q_kind (12 + (q_told 4)).toNatClampNeg r19))), (ra 4, .inl (kI, 24, .inl (upd q_salt (12 + (q_told 4)).toNatClampNeg r161))), (ra 5, .inl (kI, 24, .inl (upd q_pace (12 + (q_told 4)).toNatClampNeg r174))), (ra 6, .inl (kI, 24, .inl (upd q_mute (12 + (q_told 4)).toNatClampNeg 1))), (ra 7, .inl (kI, 24, .inl (upd q_late (12 + (q_told 4)).toNatClampNeg 1))), (ra 1, .inl (kS, 4, .inr (.inr (.inr (.inr q_kinds))))), (m0, .inr (11, oX11 ra y267)), (ra 13, .inl (kI, 700, .inl q_tape))] H := hPa
                have hD : va_D A [(ra 2, .inl (kI, 8, .inl (upd q_told 4 ((q_told 4) + 1)))), (ra 3, .inl (kI, 24, .inl (upd q_kind (12 + (q_told 4)).toNatClampNeg r19))), (ra 4, .inl (kI, 24, .inl (upd q_salt (12 + (q_told 4)).toNatClampNeg r161))), (ra 5, .inl (kI, 24, .inl (upd q_pace (12 + (q_told 4)).toNatClampNeg r174))), (ra 6, .inl (kI, 24, .inl (upd q_mute (12 + (q_told 4)).toNatClampNeg 1))), (ra 7, .inl (kI, 24, .inl (upd q_late (12 + (q_told 4)).toNatClampNeg 1))), (ra 1, .inl (kS, 4, .inr (.inr (.inr (.inr q_kinds))))), (m0, .inr (11, oX11 ra y267)), (ra 13, .inl (kI, 700, .inl q_tape))] := hDa
                clear hPa hDa
                have hPD9 := cl_s (wc := [(m0, .inr (11, oX11 ra y267)), (ra 2, .inl (kI, 8, .inl (upd q_told 4 ((q_told 4) + 1)))), (ra 3, .inl (kI, 24, .inl (upd q_kind (12 + (q_told 4)).toNatClampNeg r19))), (ra 4, .inl (kI, 24, .inl (upd q_salt (12 + (q_told 4)).toNatClampNeg r161))), (ra 5, .inl (kI, 24, .inl (upd q_pace (12 + (q_told 4)).toNatClampNeg r174))), (ra 6, .inl (kI, 24, .inl (upd q_mute (12 + (q_told 4)).toNatClampNeg 1))), (ra 7, .inl (kI, 24, .inl (upd q_late (12 + (q_told 4)).toNatClampNeg 1))), (ra 13, .inl (kI, 700, .inl q_tape)), (ra 1, .inl (kS, 4, .inr (.inr (.inr (.inr q_kinds)))))]) hP hD [7, 0, 1, 2, 3, 4, 5, 8, 6] rfl (by decide +kernel)
                have hP9 := hPD9.1
                have hD9 := hPD9.2
                exact W.vret hx hb hr (fun t ht hW => ⟨⟨(), rfl, trivial, y267, upd q_told 4 ((q_told 4) + 1), upd q_kind (12 + (q_told 4)).toNatClampNeg r19, upd q_salt (12 + (q_told 4)).toNatClampNeg r161, upd q_pace (12 + (q_told 4)).toNatClampNeg r174, upd q_mute (12 + (q_told 4)).toNatClampNeg 1, upd q_late (12 + (q_told 4)).toNatClampNeg 1, hq268, (fI_u hq_told (k := 4) ((iv_w b279 (by decide) (by decide)))), (fI_u hq_salt (k := (12 + (q_told 4)).toNatClampNeg) (w162.1)), (show (x0 2).toInt ≤ (y267 2).toInt from by omega), (show y267 3 = x0 3 from hq270.trans (hq179.trans (hq166.trans (hq152.trans (hq10))))), (show ∀ j : Nat, (j : Int) < (q_told 1).toInt → (q_from j).toInt < (q_to j).toInt from hLT), (show ∀ j : Nat, (j : Int) < (q_told 5).toInt → (q_from (20 + j)).toInt < (q_to (20 + j)).toInt from hLD), (show RRd tT nN y267 (rtrS tT nN sS (q_told 4)) from it_f (Q := RRd tT nN y267) c1 (hrr278)), fun _ => ⟨rfl, congrArg (upd q_kind ((12 + (q_told 4)).toNatClampNeg)) ((kq_y hwk c21).2 (ok_next (ok_num (ok_next (ok_num (ok_next (rr_ok hrr186 c258))))))), congrArg (upd q_salt ((12 + (q_told 4)).toNatClampNeg)) (hv2 (ok_next (ok_num (ok_next (rr_ok hrr186 c258))))), congrArg (upd q_pace ((12 + (q_told 4)).toNatClampNeg)) (hv3 (ok_next (rr_ok hrr186 c258))), congrArg (upd q_mute ((12 + (q_told 4)).toNatClampNeg)) (wS_1 c190), congrArg (upd q_late ((12 + (q_told 4)).toNatClampNeg)) (wS_1 c233)⟩, low_t (by decide), (show y267 1 = x0 1 from hq273.trans (hq181.trans (hq168.trans (hq155.trans (hq13))))), (show y267 10 = x0 10 from hq274.trans (hq182.trans (hq169.trans (hq156.trans (hq14))))), (show y267 21 = x0 21 from hq275.trans (hq183.trans (hq170.trans (hq157.trans (hq15))))), (show y267 25 = x0 25 from hq276.trans (hq184.trans (hq171.trans (hq158.trans (hq16))))), (show y267 23 = x0 23 from hq277.trans (hq185.trans (hq172.trans (hq159.trans (hq17))))), by rw [ht]; exact hP9, hD9⟩, hS.F ht⟩) hS.2.2 dX11_readRouter_178
      · have b280 : iv (-1) (-1) r19 := iv_eqL c21 ivk_m1
        refine lv_aload_n hx hb dX11_readRouter_52 rfl (lv_at hl 2 rfl) ?_
        refine lv_iconst (v := 1) hx hb dX11_readRouter_53 ic_1 ?_
        obtain ⟨hPc, hDc, hFc, hJn⟩ := cl_a (wc := [(m0, .inr (11, oX11 ra y7))]) (wr := [(ra 2, .inl (kI, 8, .inl q_told)), (ra 3, .inl (kI, 24, .inl q_kind)), (ra 4, .inl (kI, 24, .inl q_salt)), (ra 5, .inl (kI, 24, .inl q_pace)), (ra 6, .inl (kI, 24, .inl q_mute)), (ra 7, .inl (kI, 24, .inl q_late)), (ra 13, .inl (kI, 700, .inl q_tape)), (ra 1, .inl (kS, 4, .inr (.inr (.inr (.inr q_kinds)))))]) hP hD hS hA [6] [0, 1, 2, 3, 4, 5, 7, 8] rfl rfl (by decide +kernel)
        refine va_callv (va_runV (As := [.int 1]) (rest := []) ⟨hx, hb, hml, hown, hts⟩ (s11_wrong l dC dI kB kI kJ kZ kC kS H.size m0 ra y7 1 tT nN (nextT tT nN sS) (hq8) ((iv_w ivk_1 (by decide) (by decide))) (hq12)) (cwV 1 hts gX11_readRouter_X11_wrong rfl rfl rfl (by decide +kernel) ⟨Nat.le_of_ble_eq_true rfl, Nat.le_of_ble_eq_true rfl⟩) ⟨fun a U g mk q => by obtain ⟨q0, q1, qP, qE, qD⟩ := q; exact ⟨q0, q1, qP, kE_call qE, qD⟩, va_recv hK hP (ci := 11) (q0 := 6) rfl rfl, fun U hU hW => ⟨rfl, by rw [hU], by rw [hU]; exact hPc, kE_warm hW hE, hDc.weaken (fun _ _ _ _ => trivial)⟩⟩ rfl rfl hl.1 rfl (lv_room (Nat.le_of_ble_eq_true rfl)) dX11_readRouter_54 ⟨Nat.le_of_ble_eq_true rfl, Nat.le_of_ble_eq_true rfl⟩) hS (fun q _ h => hFc q h) hFc (fun u t H locs ht hvm w282 hB hz1 hk1 hS => ?_)
        obtain ⟨y283, hq284, hq285, hq286, hq287, hq288, hq289, hq290, hq291, hq292, hq293, hP1, hD1⟩ := hB
        try dsimp only at w282
        obtain ⟨hPa, hDa⟩ := hJn (w1 := [(m0, .inr (11, oX11 ra y283))]) hk1 ht hP1 hD1
        clear hP hD hPc hDc hFc hJn hP1 hD1 hk1
        have hP : va_P (dC, dI) vwCl [(ra 2, .inl (kI, 8, .inl q_told)), (ra 3, .inl (kI, 24, .inl q_kind)), (ra 4, .inl (kI, 24, .inl q_salt)), (ra 5, .inl (kI, 24, .inl q_pace)), (ra 6, .inl (kI, 24, .inl q_mute)), (ra 7, .inl (kI, 24, .inl q_late)), (ra 13, .inl (kI, 700, .inl q_tape)), (ra 1, .inl (kS, 4, .inr (.inr (.inr (.inr q_kinds))))), (m0, .inr (11, oX11 ra y283))] H := hPa
        have hD : va_D A [(ra 2, .inl (kI, 8, .inl q_told)), (ra 3, .inl (kI, 24, .inl q_kind)), (ra 4, .inl (kI, 24, .inl q_salt)), (ra 5, .inl (kI, 24, .inl q_pace)), (ra 6, .inl (kI, 24, .inl q_mute)), (ra 7, .inl (kI, 24, .inl q_late)), (ra 13, .inl (kI, 700, .inl q_tape)), (ra 1, .inl (kS, 4, .inr (.inr (.inr (.inr q_kinds))))), (m0, .inr (11, oX11 ra y283))] := hDa
        clear hPa hDa
        refine W.widen (k := 0) (n := 0) (Nat.le_of_ble_eq_true rfl) (Nat.le_of_ble_eq_true rfl) ?_
        have hrr294 : RRd tT nN y283 (kndT tT (rtr1 tT nN sS)) := (kq_n hwk c21) ▸ hq288
        refine lv_aload_n hx hb dX11_readRouter_57 rfl (lv_at hl 2 rfl) ?_
        refine va_get (D := (dC, dI)) (ci := 11) (v := .int (y283 8)) (C := RX11) (T := TX11) (N := 61) hx hb hts hin11 hown hK hP 8 rfl rfl 22 (Nat.le_of_ble_eq_true rfl) hw_1 (fun _ h9 => h9) rfl dX11_readRouter_58 ?_
        refine lv_if_ne (tgt := 68) hx hb dX11_readRouter_61 rfl (fun _ => ?_) (fun c9 => absurd c9 (iv_ne hq285 ivk_0 (by decide)))
        have hrr295 : RRd tT nN y283 (rtr2 tT nN sS) := rr_stepN hrr294 (iv_ne hq285 ivk_0 (by decide))
        refine lv_aload_n hx hb dX11_readRouter_68 rfl (lv_at hl 2 rfl) ?_
        refine va_get (D := (dC, dI)) (ci := 11) (v := .ref (ra 3)) (C := RX11) (T := TX11) (N := 61) hx hb hts hin11 hown hK hP 8 rfl rfl 4 (Nat.le_of_ble_eq_true rfl) hw_3 (fun _ h9 => h9) rfl dX11_readRouter_69 ?_
        refine lv_iload_n hx hb dX11_readRouter_72 rfl (lv_at hl 1 rfl) ?_
        refine lv_iload_n hx hb dX11_readRouter_73 rfl (lv_at hl 0 rfl) ?_
        refine va_iast hx hb hK hP hD hS 1 1 rfl rfl (iv_in b18 (by decide) (by decide)) dX11_readRouter_74 (fun H locs hPa hDa hS => ?_)
        clear hP hD
        have hP : va_P (dC, dI) vwCl [(ra 2, .inl (kI, 8, .inl q_told)), (ra 3, .inl (kI, 24, .inl (upd q_kind (12 + (q_told 4)).toNatClampNeg r19))), (ra 4, .inl (kI, 24, .inl q_salt)), (ra 5, .inl (kI, 24, .inl q_pace)), (ra 6, .inl (kI, 24, .inl q_mute)), (ra 7, .inl (kI, 24, .inl q_late)), (ra 13, .inl (kI, 700, .inl q_tape)), (ra 1, .inl (kS, 4, .inr (.inr (.inr (.inr q_kinds))))), (m0, .inr (11, oX11 ra y283))] H := hPa
        have hD : va_D A [(ra 2, .inl (kI, 8, .inl q_told)), (ra 3, .inl (kI, 24, .inl (upd q_kind (12 + (q_told 4)).toNatClampNeg r19))), (ra 4, .inl (kI, 24, .inl q_salt)), (ra 5, .inl (kI, 24, .inl q_pace)), (ra 6, .inl (kI, 24, .inl q_mute)), (ra 7, .inl (kI, 24, .inl q_late)), (ra 13, .inl (kI, 700, .inl q_tape)), (ra 1, .inl (kS, 4, .inr (.inr (.inr (.inr q_kinds))))), (m0, .inr (11, oX11 ra y283))] := hDa
        clear hPa hDa
        refine lv_aload_n hx hb dX11_readRouter_75 rfl (lv_at hl 2 rfl) ?_
        refine va_get (D := (dC, dI)) (ci := 11) (v := .ref (ra 4)) (C := RX11) (T := TX11) (N := 61) hx hb hts hin11 hown hK hP 8 rfl rfl 5 (Nat.le_of_ble_eq_true rfl) hw_4 (fun _ h9 => h9) rfl dX11_readRouter_76 ?_
        refine lv_iload_n hx hb dX11_readRouter_79 rfl (lv_at hl 1 rfl) ?_
        refine lv_aload_n hx hb dX11_readRouter_80 rfl (lv_at hl 2 rfl) ?_
        refine lv_iconst (v := 0) hx hb dX11_readRouter_81 ic_0 ?_
        refine lv_bipush (v := 15) hx hb dX11_readRouter_82 bp_15 ?_
        obtain ⟨hPc, hDc, hFc, hJn⟩ := cl_a (wc := [(m0, .inr (11, oX11 ra y283)), (ra 13, .inl (kI, 700, .inl q_tape))]) (wr := [(ra 2, .inl (kI, 8, .inl q_told)), (ra 3, .inl (kI, 24, .inl (upd q_kind (12 + (q_told 4)).toNatClampNeg r19))), (ra 4, .inl (kI, 24, .inl q_salt)), (ra 5, .inl (kI, 24, .inl q_pace)), (ra 6, .inl (kI, 24, .inl q_mute)), (ra 7, .inl (kI, 24, .inl q_late)), (ra 1, .inl (kS, 4, .inr (.inr (.inr (.inr q_kinds)))))]) hP hD hS hA [8, 6] [0, 1, 2, 3, 4, 5, 7] rfl rfl (by decide +kernel)
        refine va_calli (va_runV (As := [.int 0, .int 15]) (rest := [.int (12 + (q_told 4)), .ref (ra 4)]) ⟨hx, hb, hml, hown, hts⟩ (s11_readNumber_0_15 l dC dI kB kI kJ kZ kC kS H.size m0 ra y283 q_tape tT nN (rtr2 tT nN sS) (hq284) (hq_tape) (hrr295) (hTQ)) (cwV 2 hts gX11_readRouter_X11_readNumber rfl rfl rfl (by decide +kernel) ⟨Nat.le_of_ble_eq_true rfl, Nat.le_of_ble_eq_true rfl⟩) ⟨fun a U g mk q => by obtain ⟨q0, q1, qP, qE, qD⟩ := q; exact ⟨q0, q1, qP, kE_call qE, qD⟩, va_recv hK hP (ci := 11) (q0 := 8) rfl rfl, fun U hU hW => ⟨rfl, by rw [hU], by rw [hU]; exact hPc, kE_warm hW hE, hDc.weaken (fun _ _ _ _ => trivial)⟩⟩ rfl rfl hl.1 rfl (lv_room (Nat.le_of_ble_eq_true rfl)) dX11_readRouter_84 ⟨Nat.le_of_ble_eq_true rfl, Nat.le_of_ble_eq_true rfl⟩) hS (fun q _ h => hFc q h) hFc (fun r296 u t H locs ht hvm w297 hB hz1 hk1 hS => ?_)
        obtain ⟨y298, hq299, hq300, hq301, hq302, hq303, hq304, hq305, hq306, hq307, hP1, hD1⟩ := hB
        try dsimp only at w297
        obtain ⟨hPa, hDa⟩ := hJn (w1 := [(m0, .inr (11, oX11 ra y298)), (ra 13, .inl (kI, 700, .inl q_tape))]) hk1 ht hP1 hD1
        clear hP hD hPc hDc hFc hJn hP1 hD1 hk1
        have hP : va_P (dC, dI) vwCl [(ra 2, .inl (kI, 8, .inl q_told)), (ra 3, .inl (kI, 24, .inl (upd q_kind (12 + (q_told 4)).toNatClampNeg r19))), (ra 4, .inl (kI, 24, .inl q_salt)), (ra 5, .inl (kI, 24, .inl q_pace)), (ra 6, .inl (kI, 24, .inl q_mute)), (ra 7, .inl (kI, 24, .inl q_late)), (ra 1, .inl (kS, 4, .inr (.inr (.inr (.inr q_kinds))))), (m0, .inr (11, oX11 ra y298)), (ra 13, .inl (kI, 700, .inl q_tape))] H := hPa
        have hD : va_D A [(ra 2, .inl (kI, 8, .inl q_told)), (ra 3, .inl (kI, 24, .inl (upd q_kind (12 + (q_told 4)).toNatClampNeg r19))), (ra 4, .inl (kI, 24, .inl q_salt)), (ra 5, .inl (kI, 24, .inl q_pace)), (ra 6, .inl (kI, 24, .inl q_mute)), (ra 7, .inl (kI, 24, .inl q_late)), (ra 1, .inl (kS, 4, .inr (.inr (.inr (.inr q_kinds))))), (m0, .inr (11, oX11 ra y298)), (ra 13, .inl (kI, 700, .inl q_tape))] := hDa
        clear hPa hDa
        refine W.widen (k := 0) (n := 0) (Nat.le_of_ble_eq_true rfl) (Nat.le_of_ble_eq_true rfl) ?_
        have hv2 := w297.2
        refine va_iast hx hb hK hP hD hS 2 1 rfl rfl (iv_in b18 (by decide) (by decide)) dX11_readRouter_87 (fun H locs hPa hDa hS => ?_)
        clear hP hD
        have hP : va_P (dC, dI) vwCl [(ra 2, .inl (kI, 8, .inl q_told)), (ra 3, .inl (kI, 24, .inl (upd q_kind (12 + (q_told 4)).toNatClampNeg r19))), (ra 4, .inl (kI, 24, .inl (upd q_salt (12 + (q_told 4)).toNatClampNeg r296))), (ra 5, .inl (kI, 24, .inl q_pace)), (ra 6, .inl (kI, 24, .inl q_mute)), (ra 7, .inl (kI, 24, .inl q_late)), (ra 1, .inl (kS, 4, .inr (.inr (.inr (.inr q_kinds))))), (m0, .inr (11, oX11 ra y298)), (ra 13, .inl (kI, 700, .inl q_tape))] H := hPa
        have hD : va_D A [(ra 2, .inl (kI, 8, .inl q_told)), (ra 3, .inl (kI, 24, .inl (upd q_kind (12 + (q_told 4)).toNatClampNeg r19))), (ra 4, .inl (kI, 24, .inl (upd q_salt (12 + (q_told 4)).toNatClampNeg r296))), (ra 5, .inl (kI, 24, .inl q_pace)), (ra 6, .inl (kI, 24, .inl q_mute)), (ra 7, .inl (kI, 24, .inl q_late)), (ra 1, .inl (kS, 4, .inr (.inr (.inr (.inr q_kinds))))), (m0, .inr (11, oX11 ra y298)), (ra 13, .inl (kI, 700, .inl q_tape))] := hDa
        clear hPa hDa
        have hrr308 : RRd tT nN y298 (rtr3 tT nN sS) := hq302
        refine lv_aload_n hx hb dX11_readRouter_88 rfl (lv_at hl 2 rfl) ?_
        refine va_get (D := (dC, dI)) (ci := 11) (v := .ref (ra 5)) (C := RX11) (T := TX11) (N := 61) hx hb hts hin11 hown hK hP 7 rfl rfl 6 (Nat.le_of_ble_eq_true rfl) hw_5 (fun _ h9 => h9) rfl dX11_readRouter_89 ?_
        refine lv_iload_n hx hb dX11_readRouter_92 rfl (lv_at hl 1 rfl) ?_
        refine lv_aload_n hx hb dX11_readRouter_93 rfl (lv_at hl 2 rfl) ?_
        refine lv_iconst (v := 1) hx hb dX11_readRouter_94 ic_1 ?_
        refine lv_bipush (v := 60) hx hb dX11_readRouter_95 bp_60 ?_
        obtain ⟨hPc, hDc, hFc, hJn⟩ := cl_a (wc := [(m0, .inr (11, oX11 ra y298)), (ra 13, .inl (kI, 700, .inl q_tape))]) (wr := [(ra 2, .inl (kI, 8, .inl q_told)), (ra 3, .inl (kI, 24, .inl (upd q_kind (12 + (q_told 4)).toNatClampNeg r19))), (ra 4, .inl (kI, 24, .inl (upd q_salt (12 + (q_told 4)).toNatClampNeg r296))), (ra 5, .inl (kI, 24, .inl q_pace)), (ra 6, .inl (kI, 24, .inl q_mute)), (ra 7, .inl (kI, 24, .inl q_late)), (ra 1, .inl (kS, 4, .inr (.inr (.inr (.inr q_kinds)))))]) hP hD hS hA [7, 8] [0, 1, 2, 3, 4, 5, 6] rfl rfl (by decide +kernel)
        refine va_calli (va_runV (As := [.int 1, .int 60]) (rest := [.int (12 + (q_told 4)), .ref (ra 5)]) ⟨hx, hb, hml, hown, hts⟩ (s11_readNumber_1_60 l dC dI kB kI kJ kZ kC kS H.size m0 ra y298 q_tape tT nN (rtr3 tT nN sS) (hq299) (hq_tape) (hrr308) (hTQ)) (cwV 2 hts gX11_readRouter_X11_readNumber rfl rfl rfl (by decide +kernel) ⟨Nat.le_of_ble_eq_true rfl, Nat.le_of_ble_eq_true rfl⟩) ⟨fun a U g mk q => by obtain ⟨q0, q1, qP, qE, qD⟩ := q; exact ⟨q0, q1, qP, kE_call qE, qD⟩, va_recv hK hP (ci := 11) (q0 := 7) rfl rfl, fun U hU hW => ⟨rfl, by rw [hU], by rw [hU]; exact hPc, kE_warm hW hE, hDc.weaken (fun _ _ _ _ => trivial)⟩⟩ rfl rfl hl.1 rfl (lv_room (Nat.le_of_ble_eq_true rfl)) dX11_readRouter_97 ⟨Nat.le_of_ble_eq_true rfl, Nat.le_of_ble_eq_true rfl⟩) hS (fun q _ h => hFc q h) hFc (fun r309 u t H locs ht hvm w310 hB hz1 hk1 hS => ?_)
        obtain ⟨y311, hq312, hq313, hq314, hq315, hq316, hq317, hq318, hq319, hq320, hP1, hD1⟩ := hB
        try dsimp only at w310
        obtain ⟨hPa, hDa⟩ := hJn (w1 := [(m0, .inr (11, oX11 ra y311)), (ra 13, .inl (kI, 700, .inl q_tape))]) hk1 ht hP1 hD1
        clear hP hD hPc hDc hFc hJn hP1 hD1 hk1
        have hP : va_P (dC, dI) vwCl [(ra 2, .inl (kI, 8, .inl q_told)), (ra 3, .inl (kI, 24, .inl (upd q_kind (12 + (q_told 4)).toNatClampNeg r19))), (ra 4, .inl (kI, 24, .inl (upd q_salt (12 + (q_told 4)).toNatClampNeg r296))), (ra 5, .inl (kI, 24, .inl q_pace)), (ra 6, .inl (kI, 24, .inl q_mute)), (ra 7, .inl (kI, 24, .inl q_late)), (ra 1, .inl (kS, 4, .inr (.inr (.inr (.inr q_kinds))))), (m0, .inr (11, oX11 ra y311)), (ra 13, .inl (kI, 700, .inl q_tape))] H := hPa
        have hD : va_D A [(ra 2, .inl (kI, 8, .inl q_told)), (ra 3, .inl (kI, 24, .inl (upd q_kind (12 + (q_told 4)).toNatClampNeg r19))), (ra 4, .inl (kI, 24, .inl (upd q_salt (12 + (q_told 4)).toNatClampNeg r296))), (ra 5, .inl (kI, 24, .inl q_pace)), (ra 6, .inl (kI, 24, .inl q_mute)), (ra 7, .inl (kI, 24, .inl q_late)), (ra 1, .inl (kS, 4, .inr (.inr (.inr (.inr q_kinds))))), (m0, .inr (11, oX11 ra y311)), (ra 13, .inl (kI, 700, .inl q_tape))] := hDa
        clear hPa hDa
        refine W.widen (k := 0) (n := 0) (Nat.le_of_ble_eq_true rfl) (Nat.le_of_ble_eq_true rfl) ?_
        have hv3 := w310.2
        refine va_iast hx hb hK hP hD hS 3 1 rfl rfl (iv_in b18 (by decide) (by decide)) dX11_readRouter_100 (fun H locs hPa hDa hS => ?_)
        clear hP hD
        have hP : va_P (dC, dI) vwCl [(ra 2, .inl (kI, 8, .inl q_told)), (ra 3, .inl (kI, 24, .inl (upd q_kind (12 + (q_told 4)).toNatClampNeg r19))), (ra 4, .inl (kI, 24, .inl (upd q_salt (12 + (q_told 4)).toNatClampNeg r296))), (ra 5, .inl (kI, 24, .inl (upd q_pace (12 + (q_told 4)).toNatClampNeg r309))), (ra 6, .inl (kI, 24, .inl q_mute)), (ra 7, .inl (kI, 24, .inl q_late)), (ra 1, .inl (kS, 4, .inr (.inr (.inr (.inr q_kinds))))), (m0, .inr (11, oX11 ra y311)), (ra 13, .inl (kI, 700, .inl q_tape))] H := hPa
        have hD : va_D A [(ra 2, .inl (kI, 8, .inl q_told)), (ra 3, .inl (kI, 24, .inl (upd q_kind (12 + (q_told 4)).toNatClampNeg r19))), (ra 4, .inl (kI, 24, .inl (upd q_salt (12 + (q_told 4)).toNatClampNeg r296))), (ra 5, .inl (kI, 24, .inl (upd q_pace (12 + (q_told 4)).toNatClampNeg r309))), (ra 6, .inl (kI, 24, .inl q_mute)), (ra 7, .inl (kI, 24, .inl q_late)), (ra 1, .inl (kS, 4, .inr (.inr (.inr (.inr q_kinds))))), (m0, .inr (11, oX11 ra y311)), (ra 13, .inl (kI, 700, .inl q_tape))] := hDa
        clear hPa hDa
        have hrr321 : RRd tT nN y311 (rtr4 tT nN sS) := hq315
        refine lv_aload_n hx hb dX11_readRouter_101 rfl (lv_at hl 2 rfl) ?_
        refine va_get (D := (dC, dI)) (ci := 11) (v := .ref (ra 6)) (C := RX11) (T := TX11) (N := 61) hx hb hts hin11 hown hK hP 7 rfl rfl 7 (Nat.le_of_ble_eq_true rfl) hw_6 (fun _ h9 => h9) rfl dX11_readRouter_102 ?_
        refine lv_iload_n hx hb dX11_readRouter_105 rfl (lv_at hl 1 rfl) ?_
        refine lv_aload_n hx hb dX11_readRouter_106 rfl (lv_at hl 2 rfl) ?_
        refine va_ldcS hx hb hown hKL.2.2.2.2.2.2.2.2.2.2.2.2.2.2.2.2.2.2.2.2.2.1 dX11_readRouter_107 ?_
        obtain ⟨hPc, hDc, hFc, hJn⟩ := cl_a (wc := [(m0, .inr (11, oX11 ra y311)), (ra 13, .inl (kI, 700, .inl q_tape))]) (wr := [(ra 2, .inl (kI, 8, .inl q_told)), (ra 3, .inl (kI, 24, .inl (upd q_kind (12 + (q_told 4)).toNatClampNeg r19))), (ra 4, .inl (kI, 24, .inl (upd q_salt (12 + (q_told 4)).toNatClampNeg r296))), (ra 5, .inl (kI, 24, .inl (upd q_pace (12 + (q_told 4)).toNatClampNeg r309))), (ra 6, .inl (kI, 24, .inl q_mute)), (ra 7, .inl (kI, 24, .inl q_late)), (ra 1, .inl (kS, 4, .inr (.inr (.inr (.inr q_kinds)))))]) hP hD hS hA [7, 8] [0, 1, 2, 3, 4, 5, 6] rfl rfl (by decide +kernel)
        refine va_calli (va_runV (As := [.ref (adK 8)]) (rest := [.int (12 + (q_told 4)), .ref (ra 6)]) ⟨hx, hb, hml, hown, hts⟩ (s11_is l dC dI kB kI kJ kZ kC kS H.size adK adV m0 ra y311 q_tape 8 tT nN (rtr4 tT nN sS) (hq312) (hq_tape) ((by decide)) (hrr321) (hTQ)) (cwV 1 hts gX11_readRouter_X11_is rfl rfl rfl (by decide +kernel) ⟨Nat.le_of_ble_eq_true rfl, Nat.le_of_ble_eq_true rfl⟩) ⟨fun a U g mk q => by obtain ⟨q0, q1, qP, qE, qD, qL⟩ := q; exact ⟨q0, q1, qP, kE_call qE, qD, kL_call qL⟩, va_recv hK hP (ci := 11) (q0 := 7) rfl rfl, fun U hU hW => ⟨rfl, by rw [hU], by rw [hU]; exact hPc, kE_warm hW hE, hDc.weaken (fun _ _ _ _ => trivial), kL_at hKL hS hFc hW hU⟩⟩ rfl rfl hl.1 rfl (lv_room (Nat.le_of_ble_eq_true rfl)) dX11_readRouter_109 ⟨Nat.le_of_ble_eq_true rfl, Nat.le_of_ble_eq_true rfl⟩) hS (fun q _ h => hFc q h) hFc (fun r322 u t H locs ht hvm w323 hB hz1 hk1 hS => ?_)
        obtain ⟨hP1, hD1⟩ := hB
        try dsimp only at w323
        obtain ⟨hPa, hDa⟩ := hJn (w1 := [(m0, .inr (11, oX11 ra y311)), (ra 13, .inl (kI, 700, .inl q_tape))]) hk1 ht hP1 hD1
        clear hP hD hPc hDc hFc hJn hP1 hD1 hk1
        have hP : va_P (dC, dI) vwCl [(ra 2, .inl (kI, 8, .inl q_told)), (ra 3, .inl (kI, 24, .inl (upd q_kind (12 + (q_told 4)).toNatClampNeg r19))), (ra 4, .inl (kI, 24, .inl (upd q_salt (12 + (q_told 4)).toNatClampNeg r296))), (ra 5, .inl (kI, 24, .inl (upd q_pace (12 + (q_told 4)).toNatClampNeg r309))), (ra 6, .inl (kI, 24, .inl q_mute)), (ra 7, .inl (kI, 24, .inl q_late)), (ra 1, .inl (kS, 4, .inr (.inr (.inr (.inr q_kinds))))), (m0, .inr (11, oX11 ra y311)), (ra 13, .inl (kI, 700, .inl q_tape))] H := hPa
        have hD : va_D A [(ra 2, .inl (kI, 8, .inl q_told)), (ra 3, .inl (kI, 24, .inl (upd q_kind (12 + (q_told 4)).toNatClampNeg r19))), (ra 4, .inl (kI, 24, .inl (upd q_salt (12 + (q_told 4)).toNatClampNeg r296))), (ra 5, .inl (kI, 24, .inl (upd q_pace (12 + (q_told 4)).toNatClampNeg r309))), (ra 6, .inl (kI, 24, .inl q_mute)), (ra 7, .inl (kI, 24, .inl q_late)), (ra 1, .inl (kS, 4, .inr (.inr (.inr (.inr q_kinds))))), (m0, .inr (11, oX11 ra y311)), (ra 13, .inl (kI, 700, .inl q_tape))] := hDa
        clear hPa hDa
        refine W.widen (k := 0) (n := 0) (Nat.le_of_ble_eq_true rfl) (Nat.le_of_ble_eq_true rfl) ?_
        obtain ⟨w323, b324⟩ := w323
        subst w323
        refine lv_if_eq (tgt := 119) hx hb dX11_readRouter_112 rfl (fun c325 => ?_) (fun c325 => ?_)
        · have b326 : iv 0 0 (wS tT 8 (rtr4 tT nN sS)) := iv_eqL c325 ivk_0
          refine lv_iconst (v := 0) hx hb dX11_readRouter_119 ic_0 ?_
          refine va_iast hx hb hK hP hD hS 4 1 rfl rfl (iv_in b18 (by decide) (by decide)) dX11_readRouter_120 (fun H locs hPa hDa hS => ?_)
          clear hP hD
          have hP : va_P (dC, dI) vwCl [(ra 2, .inl (kI, 8, .inl q_told)), (ra 3, .inl (kI, 24, .inl (upd q_kind (12 + (q_told 4)).toNatClampNeg r19))), (ra 4, .inl (kI, 24, .inl (upd q_salt (12 + (q_told 4)).toNatClampNeg r296))), (ra 5, .inl (kI, 24, .inl (upd q_pace (12 + (q_told 4)).toNatClampNeg r309))), (ra 6, .inl (kI, 24, .inl (upd q_mute (12 + (q_told 4)).toNatClampNeg 0))), (ra 7, .inl (kI, 24, .inl q_late)), (ra 1, .inl (kS, 4, .inr (.inr (.inr (.inr q_kinds))))), (m0, .inr (11, oX11 ra y311)), (ra 13, .inl (kI, 700, .inl q_tape))] H := hPa
          have hD : va_D A [(ra 2, .inl (kI, 8, .inl q_told)), (ra 3, .inl (kI, 24, .inl (upd q_kind (12 + (q_told 4)).toNatClampNeg r19))), (ra 4, .inl (kI, 24, .inl (upd q_salt (12 + (q_told 4)).toNatClampNeg r296))), (ra 5, .inl (kI, 24, .inl (upd q_pace (12 + (q_told 4)).toNatClampNeg r309))), (ra 6, .inl (kI, 24, .inl (upd q_mute (12 + (q_told 4)).toNatClampNeg 0))), (ra 7, .inl (kI, 24, .inl q_late)), (ra 1, .inl (kS, 4, .inr (.inr (.inr (.inr q_kinds))))), (m0, .inr (11, oX11 ra y311)), (ra 13, .inl (kI, 700, .inl q_tape))] := hDa
          clear hPa hDa
          refine lv_aload_n hx hb dX11_readRouter_121 rfl (lv_at hl 2 rfl) ?_
          refine va_get (D := (dC, dI)) (ci := 11) (v := .ref (ra 7)) (C := RX11) (T := TX11) (N := 61) hx hb hts hin11 hown hK hP 7 rfl rfl 8 (Nat.le_of_ble_eq_true rfl) hw_7 (fun _ h9 => h9) rfl dX11_readRouter_122 ?_
          refine lv_iload_n hx hb dX11_readRouter_125 rfl (lv_at hl 1 rfl) ?_
          refine lv_aload_n hx hb dX11_readRouter_126 rfl (lv_at hl 2 rfl) ?_
          refine va_ldcS hx hb hown hKL.2.2.2.2.2.2.2.2.2.2.2.2.2.2.2.2.2.2.2.2.2.2 dX11_readRouter_127 ?_
          obtain ⟨hPc, hDc, hFc, hJn⟩ := cl_a (wc := [(m0, .inr (11, oX11 ra y311)), (ra 13, .inl (kI, 700, .inl q_tape))]) (wr := [(ra 2, .inl (kI, 8, .inl q_told)), (ra 3, .inl (kI, 24, .inl (upd q_kind (12 + (q_told 4)).toNatClampNeg r19))), (ra 4, .inl (kI, 24, .inl (upd q_salt (12 + (q_told 4)).toNatClampNeg r296))), (ra 5, .inl (kI, 24, .inl (upd q_pace (12 + (q_told 4)).toNatClampNeg r309))), (ra 6, .inl (kI, 24, .inl (upd q_mute (12 + (q_told 4)).toNatClampNeg 0))), (ra 7, .inl (kI, 24, .inl q_late)), (ra 1, .inl (kS, 4, .inr (.inr (.inr (.inr q_kinds)))))]) hP hD hS hA [7, 8] [0, 1, 2, 3, 4, 5, 6] rfl rfl (by decide +kernel)
          refine va_calli (va_runV (As := [.ref (adK 9)]) (rest := [.int (12 + (q_told 4)), .ref (ra 7)]) ⟨hx, hb, hml, hown, hts⟩ (s11_is l dC dI kB kI kJ kZ kC kS H.size adK adV m0 ra y311 q_tape 9 tT nN (rtr4 tT nN sS) (hq312) (hq_tape) ((by decide)) (hrr321) (hTQ)) (cwV 1 hts gX11_readRouter_X11_is rfl rfl rfl (by decide +kernel) ⟨Nat.le_of_ble_eq_true rfl, Nat.le_of_ble_eq_true rfl⟩) ⟨fun a U g mk q => by obtain ⟨q0, q1, qP, qE, qD, qL⟩ := q; exact ⟨q0, q1, qP, kE_call qE, qD, kL_call qL⟩, va_recv hK hP (ci := 11) (q0 := 7) rfl rfl, fun U hU hW => ⟨rfl, by rw [hU], by rw [hU]; exact hPc, kE_warm hW hE, hDc.weaken (fun _ _ _ _ => trivial), kL_at hKL hS hFc hW hU⟩⟩ rfl rfl hl.1 rfl (lv_room (Nat.le_of_ble_eq_true rfl)) dX11_readRouter_129 ⟨Nat.le_of_ble_eq_true rfl, Nat.le_of_ble_eq_true rfl⟩) hS (fun q _ h => hFc q h) hFc (fun r327 u t H locs ht hvm w328 hB hz1 hk1 hS => ?_)
          obtain ⟨hP1, hD1⟩ := hB
          try dsimp only at w328
          obtain ⟨hPa, hDa⟩ := hJn (w1 := [(m0, .inr (11, oX11 ra y311)), (ra 13, .inl (kI, 700, .inl q_tape))]) hk1 ht hP1 hD1
          clear hP hD hPc hDc hFc hJn hP1 hD1 hk1
          have hP : va_P (dC, dI) vwCl [(ra 2, .inl (kI, 8, .inl q_told)), (ra 3, .inl (kI, 24, .inl (upd q_kind (12 + (q_told 4)).toNatClampNeg r19))), (ra 4, .inl (kI, 24, .inl (upd q_salt (12 + (q_told 4)).toNatClampNeg r296))), (ra 5, .inl (kI, 24, .inl (upd q_pace (12 + (q_told 4)).toNatClampNeg r309))), (ra 6, .inl (kI, 24, .inl (upd q_mute (12 + (q_told 4)).toNatClampNeg 0))), (ra 7, .inl (kI, 24, .inl q_late)), (ra 1, .inl (kS, 4, .inr (.inr (.inr (.inr q_kinds))))), (m0, .inr (11, oX11 ra y311)), (ra 13, .inl (kI, 700, .inl q_tape))] H := hPa
          have hD : va_D A [(ra 2, .inl (kI, 8, .inl q_told)), (ra 3, .inl (kI, 24, .inl (upd q_kind (12 + (q_told 4)).toNatClampNeg r19))), (ra 4, .inl (kI, 24, .inl (upd q_salt (12 + (q_told 4)).toNatClampNeg r296))), (ra 5, .inl (kI, 24, .inl (upd q_pace (12 + (q_told 4)).toNatClampNeg r309))), (ra 6, .inl (kI, 24, .inl (upd q_mute (12 + (q_told 4)).toNatClampNeg 0))), (ra 7, .inl (kI, 24, .inl q_late)), (ra 1, .inl (kS, 4, .inr (.inr (.inr (.inr q_kinds))))), (m0, .inr (11, oX11 ra y311)), (ra 13, .inl (kI, 700, .inl q_tape))] := hDa
          clear hPa hDa
          refine W.widen (k := 0) (n := 0) (Nat.le_of_ble_eq_true rfl) (Nat.le_of_ble_eq_true rfl) ?_
          obtain ⟨w328, b329⟩ := w328
          subst w328
          refine lv_if_eq (tgt := 139) hx hb dX11_readRouter_132 rfl (fun c330 => ?_) (fun c330 => ?_)
          · have b331 : iv 0 0 (wS tT 9 (rtr4 tT nN sS)) := iv_eqL c330 ivk_0
            refine lv_iconst (v := 0) hx hb dX11_readRouter_139 ic_0 ?_
            refine va_iast hx hb hK hP hD hS 5 1 rfl rfl (iv_in b18 (by decide) (by decide)) dX11_readRouter_140 (fun H locs hPa hDa hS => ?_)
            clear hP hD
            have hP : va_P (dC, dI) vwCl [(ra 2, .inl (kI, 8, .inl q_told)), (ra 3, .inl (kI, 24, .inl (upd q_kind (12 + (q_told 4)).toNatClampNeg r19))), (ra 4, .inl (kI, 24, .inl (upd q_salt (12 + (q_told 4)).toNatClampNeg r296))), (ra 5, .inl (kI, 24, .inl (upd q_pace (12 + (q_told 4)).toNatClampNeg r309))), (ra 6, .inl (kI, 24, .inl (upd q_mute (12 + (q_told 4)).toNatClampNeg 0))), (ra 7, .inl (kI, 24, .inl (upd q_late (12 + (q_told 4)).toNatClampNeg 0))), (ra 1, .inl (kS, 4, .inr (.inr (.inr (.inr q_kinds))))), (m0, .inr (11, oX11 ra y311)), (ra 13, .inl (kI, 700, .inl q_tape))] H := hPa
            have hD : va_D A [(ra 2, .inl (kI, 8, .inl q_told)), (ra 3, .inl (kI, 24, .inl (upd q_kind (12 + (q_told 4)).toNatClampNeg r19))), (ra 4, .inl (kI, 24, .inl (upd q_salt (12 + (q_told 4)).toNatClampNeg r296))), (ra 5, .inl (kI, 24, .inl (upd q_pace (12 + (q_told 4)).toNatClampNeg r309))), (ra 6, .inl (kI, 24, .inl (upd q_mute (12 + (q_told 4)).toNatClampNeg 0))), (ra 7, .inl (kI, 24, .inl (upd q_late (12 + (q_told 4)).toNatClampNeg 0))), (ra 1, .inl (kS, 4, .inr (.inr (.inr (.inr q_kinds))))), (m0, .inr (11, oX11 ra y311)), (ra 13, .inl (kI, 700, .inl q_tape))] := hDa
            clear hPa hDa
            refine lv_aload_n hx hb dX11_readRouter_141 rfl (lv_at hl 2 rfl) ?_
            refine va_get (D := (dC, dI)) (ci := 11) (v := .int (y311 8)) (C := RX11) (T := TX11) (N := 61) hx hb hts hin11 hown hK hP 7 rfl rfl 22 (Nat.le_of_ble_eq_true rfl) hw_1 (fun _ h9 => h9) rfl dX11_readRouter_142 ?_
            refine lv_if_ne (tgt := 168) hx hb dX11_readRouter_145 rfl (fun c332 => ?_) (fun c332 => ?_)
            · have b333 : iv 1 5 (y311 8) := iv_neLo c332 (hq312 8 : iv 0 5 (y311 8)) ivk_0 (by decide) (by decide)
              have hrr334 : RRd tT nN y311 (manT tT nN (rtr4 tT nN sS)) := (mq_b hrr321 c332) ▸ hrr321
              refine lv_aload_n hx hb dX11_readRouter_168 rfl (lv_at hl 2 rfl) ?_
              refine va_get (D := (dC, dI)) (ci := 11) (v := .ref (ra 2)) (C := RX11) (T := TX11) (N := 61) hx hb hts hin11 hown hK hP 7 rfl rfl 3 (Nat.le_of_ble_eq_true rfl) hw_0 (fun _ h9 => h9) rfl dX11_readRouter_169 ?_
              refine lv_iconst (v := 4) hx hb dX11_readRouter_172 ic_4 ?_
              refine lv_dup2_11 hx hb dX11_readRouter_173 rfl rfl ?_
              refine va_iald hx hb hK hP 0 1 rfl rfl (vp_in_nI (n := 4) (by decide) (by decide)) dX11_readRouter_174 ?_
              refine W.eq (g2 := F0 m 175 ls [.int (q_told 4), .int 4, .ref (ra 2)]) rfl ?_
              refine lv_iconst (v := 1) hx hb dX11_readRouter_175 ic_1 ?_
              refine lv_iadd hx hb dX11_readRouter_176 ?_
              have b335 : iv 1 12 ((q_told 4) + 1) := iv_add b2 ivk_1 (by decide) (by decide) (by decide) (by decide)
              refine va_iast hx hb hK hP hD hS 0 1 rfl rfl (vp_in_nI (n := 4) (by decide) (by decide)) dX11_readRouter_177 (fun H locs hPa hDa hS => ?_)
              clear hP hD
              have hP : va_P (dC, dI) vwCl [(ra 2, .inl (kI, 8, .inl (upd q_told 4 ((q_told 4) + 1)))), (ra 3, .inl (kI, 24, .inl (upd q_kind (12 + (q_told 4)).toNatClampNeg r19))), (ra 4, .inl (kI, 24, .inl (upd q_salt (12 + (q_told 4)).toNatClampNeg r296))), (ra 5, .inl (kI, 24, .inl (upd q_pace (12 + (q_told 4)).toNatClampNeg r309))), (ra 6, .inl (kI, 24, .inl (upd q_mute (12 + (q_told 4)).toNatClampNeg 0))), (ra 7, .inl (kI, 24, .inl (upd q_late (12 + (q_told 4)).toNatClampNeg 0))), (ra 1, .inl (kS, 4, .inr (.inr (.inr (.inr q_kinds))))), (m0, .inr (11, oX11 ra y311)), (ra 13, .inl (kI, 700, .inl q_tape))] H := hPa
              have hD : va_D A [(ra 2, .inl (kI, 8, .inl (upd q_told 4 ((q_told 4) + 1)))), (ra 3, .inl (kI, 24, .inl (upd q_kind (12 + (q_told 4)).toNatClampNeg r19))), (ra 4, .inl (kI, 24, .inl (upd q_salt (12 + (q_told 4)).toNatClampNeg r296))), (ra 5, .inl (kI, 24, .inl (upd q_pace (12 + (q_told 4)).toNatClampNeg r309))), (ra 6, .inl (kI, 24, .inl (upd q_mute (12 + (q_told 4)).toNatClampNeg 0))), (ra 7, .inl (kI, 24, .inl (upd q_late (12 + (q_told 4)).toNatClampNeg 0))), (ra 1, .inl (kS, 4, .inr (.inr (.inr (.inr q_kinds))))), (m0, .inr (11, oX11 ra y311)), (ra 13, .inl (kI, 700, .inl q_tape))] := hDa
              clear hPa hDa
              have hPD9 := cl_s (wc := [(m0, .inr (11, oX11 ra y311)), (ra 2, .inl (kI, 8, .inl (upd q_told 4 ((q_told 4) + 1)))), (ra 3, .inl (kI, 24, .inl (upd q_kind (12 + (q_told 4)).toNatClampNeg r19))), (ra 4, .inl (kI, 24, .inl (upd q_salt (12 + (q_told 4)).toNatClampNeg r296))), (ra 5, .inl (kI, 24, .inl (upd q_pace (12 + (q_told 4)).toNatClampNeg r309))), (ra 6, .inl (kI, 24, .inl (upd q_mute (12 + (q_told 4)).toNatClampNeg 0))), (ra 7, .inl (kI, 24, .inl (upd q_late (12 + (q_told 4)).toNatClampNeg 0))), (ra 13, .inl (kI, 700, .inl q_tape)), (ra 1, .inl (kS, 4, .inr (.inr (.inr (.inr q_kinds)))))]) hP hD [7, 0, 1, 2, 3, 4, 5, 8, 6] rfl (by decide +kernel)
              have hP9 := hPD9.1
              have hD9 := hPD9.2
              exact W.vret hx hb hr (fun t ht hW => ⟨⟨(), rfl, trivial, y311, upd q_told 4 ((q_told 4) + 1), upd q_kind (12 + (q_told 4)).toNatClampNeg r19, upd q_salt (12 + (q_told 4)).toNatClampNeg r296, upd q_pace (12 + (q_told 4)).toNatClampNeg r309, upd q_mute (12 + (q_told 4)).toNatClampNeg 0, upd q_late (12 + (q_told 4)).toNatClampNeg 0, hq312, (fI_u hq_told (k := 4) ((iv_w b335 (by decide) (by decide)))), (fI_u hq_salt (k := (12 + (q_told 4)).toNatClampNeg) (w297.1)), (show (x0 2).toInt ≤ (y311 2).toInt from by omega), (show y311 3 = x0 3 from hq314.trans (hq301.trans (hq287.trans (hq10)))), (show ∀ j : Nat, (j : Int) < (q_told 1).toInt → (q_from j).toInt < (q_to j).toInt from hLT), (show ∀ j : Nat, (j : Int) < (q_told 5).toInt → (q_from (20 + j)).toInt < (q_to (20 + j)).toInt from hLD), (show RRd tT nN y311 (rtrS tT nN sS (q_told 4)) from it_f (Q := RRd tT nN y311) c1 (hrr334)), fun w => absurd w c332, low_t (by decide), (show y311 1 = x0 1 from hq316.trans (hq303.trans (hq289.trans (hq13)))), (show y311 10 = x0 10 from hq317.trans (hq304.trans (hq290.trans (hq14)))), (show y311 21 = x0 21 from hq318.trans (hq305.trans (hq291.trans (hq15)))), (show y311 25 = x0 25 from hq319.trans (hq306.trans (hq292.trans (hq16)))), (show y311 23 = x0 23 from hq320.trans (hq307.trans (hq293.trans (hq17)))), by rw [ht]; exact hP9, hD9⟩, hS.F ht⟩) hS.2.2 dX11_readRouter_178
            · have b336 : iv 0 0 (y311 8) := iv_eqL c332 ivk_0
              refine lv_aload_n hx hb dX11_readRouter_148 rfl (lv_at hl 2 rfl) ?_
              refine va_get (D := (dC, dI)) (ci := 11) (v := .ref (ra 6)) (C := RX11) (T := TX11) (N := 61) hx hb hts hin11 hown hK hP 7 rfl rfl 7 (Nat.le_of_ble_eq_true rfl) hw_6 (fun _ h9 => h9) rfl dX11_readRouter_149 ?_
              refine lv_iload_n hx hb dX11_readRouter_152 rfl (lv_at hl 1 rfl) ?_
              refine va_iald hx hb hK hP 4 1 rfl rfl (iv_in b18 (by decide) (by decide)) dX11_readRouter_153 ?_
              refine W.eq (g2 := F0 m 154 ls [.int 0]) (by rw [upd_eq]) ?_
              refine lv_aload_n hx hb dX11_readRouter_154 rfl (lv_at hl 2 rfl) ?_
              refine va_get (D := (dC, dI)) (ci := 11) (v := .ref (ra 7)) (C := RX11) (T := TX11) (N := 61) hx hb hts hin11 hown hK hP 7 rfl rfl 8 (Nat.le_of_ble_eq_true rfl) hw_7 (fun _ h9 => h9) rfl dX11_readRouter_155 ?_
              refine lv_iload_n hx hb dX11_readRouter_158 rfl (lv_at hl 1 rfl) ?_
              refine va_iald hx hb hK hP 5 1 rfl rfl (iv_in b18 (by decide) (by decide)) dX11_readRouter_159 ?_
              refine W.eq (g2 := F0 m 160 ls [.int 0, .int 0]) (by rw [upd_eq]) ?_
              refine lv_iadd hx hb dX11_readRouter_160 ?_
              refine lv_topi (fun z337 e338 => ?_)
              obtain rfl : z337 = (0 : Int32) := e338.trans (by decide)
              refine lv_if_le (tgt := 168) hx hb dX11_readRouter_161 rfl (fun _ => ?_) (fun c9 => absurd (by decide) c9)
              have hrr339 : RRd tT nN y311 (manT tT nN (rtr4 tT nN sS)) := (mq_0 hrr321 c332 c325 c330) ▸ hrr321
              refine lv_aload_n hx hb dX11_readRouter_168 rfl (lv_at hl 2 rfl) ?_
              refine va_get (D := (dC, dI)) (ci := 11) (v := .ref (ra 2)) (C := RX11) (T := TX11) (N := 61) hx hb hts hin11 hown hK hP 7 rfl rfl 3 (Nat.le_of_ble_eq_true rfl) hw_0 (fun _ h9 => h9) rfl dX11_readRouter_169 ?_
              refine lv_iconst (v := 4) hx hb dX11_readRouter_172 ic_4 ?_
              refine lv_dup2_11 hx hb dX11_readRouter_173 rfl rfl ?_
              refine va_iald hx hb hK hP 0 1 rfl rfl (vp_in_nI (n := 4) (by decide) (by decide)) dX11_readRouter_174 ?_
              refine W.eq (g2 := F0 m 175 ls [.int (q_told 4), .int 4, .ref (ra 2)]) rfl ?_
              refine lv_iconst (v := 1) hx hb dX11_readRouter_175 ic_1 ?_
              refine lv_iadd hx hb dX11_readRouter_176 ?_
              have b340 : iv 1 12 ((q_told 4) + 1) := iv_add b2 ivk_1 (by decide) (by decide) (by decide) (by decide)
              refine va_iast hx hb hK hP hD hS 0 1 rfl rfl (vp_in_nI (n := 4) (by decide) (by decide)) dX11_readRouter_177 (fun H locs hPa hDa hS => ?_)
              clear hP hD
              have hP : va_P (dC, dI) vwCl [(ra 2, .inl (kI, 8, .inl (upd q_told 4 ((q_told 4) + 1)))), (ra 3, .inl (kI, 24, .inl (upd q_kind (12 + (q_told 4)).toNatClampNeg r19))), (ra 4, .inl (kI, 24, .inl (upd q_salt (12 + (q_told 4)).toNatClampNeg r296))), (ra 5, .inl (kI, 24, .inl (upd q_pace (12 + (q_told 4)).toNatClampNeg r309))), (ra 6, .inl (kI, 24, .inl (upd q_mute (12 + (q_told 4)).toNatClampNeg 0))), (ra 7, .inl (kI, 24, .inl (upd q_late (12 + (q_told 4)).toNatClampNeg 0))), (ra 1, .inl (kS, 4, .inr (.inr (.inr (.inr q_kinds))))), (m0, .inr (11, oX11 ra y311)), (ra 13, .inl (kI, 700, .inl q_tape))] H := hPa
              have hD : va_D A [(ra 2, .inl (kI, 8, .inl (upd q_told 4 ((q_told 4) + 1)))), (ra 3, .inl (kI, 24, .inl (upd q_kind (12 + (q_told 4)).toNatClampNeg r19))), (ra 4, .inl (kI, 24, .inl (upd q_salt (12 + (q_told 4)).toNatClampNeg r296))), (ra 5, .inl (kI, 24, .inl (upd q_pace (12 + (q_told 4)).toNatClampNeg r309))), (ra 6, .inl (kI, 24, .inl (upd q_mute (12 + (q_told 4)).toNatClampNeg 0))), (ra 7, .inl (kI, 24, .inl (upd q_late (12 + (q_told 4)).toNatClampNeg 0))), (ra 1, .inl (kS, 4, .inr (.inr (.inr (.inr q_kinds))))), (m0, .inr (11, oX11 ra y311)), (ra 13, .inl (kI, 700, .inl q_tape))] := hDa
              clear hPa hDa
              have hPD9 := cl_s (wc := [(m0, .inr (11, oX11 ra y311)), (ra 2, .inl (kI, 8, .inl (upd q_told 4 ((q_told 4) + 1)))), (ra 3, .inl (kI, 24, .inl (upd q_kind (12 + (q_told 4)).toNatClampNeg r19))), (ra 4, .inl (kI, 24, .inl (upd q_salt (12 + (q_told 4)).toNatClampNeg r296))), (ra 5, .inl (kI, 24, .inl (upd q_pace (12 + (q_told 4)).toNatClampNeg r309))), (ra 6, .inl (kI, 24, .inl (upd q_mute (12 + (q_told 4)).toNatClampNeg 0))), (ra 7, .inl (kI, 24, .inl (upd q_late (12 + (q_told 4)).toNatClampNeg 0))), (ra 13, .inl (kI, 700, .inl q_tape)), (ra 1, .inl (kS, 4, .inr (.inr (.inr (.inr q_kinds)))))]) hP hD [7, 0, 1, 2, 3, 4, 5, 8, 6] rfl (by decide +kernel)
              have hP9 := hPD9.1
              have hD9 := hPD9.2
              exact W.vret hx hb hr (fun t ht hW => ⟨⟨(), rfl, trivial, y311, upd q_told 4 ((q_told 4) + 1), upd q_kind (12 + (q_told 4)).toNatClampNeg r19, upd q_salt (12 + (q_told 4)).toNatClampNeg r296, upd q_pace (12 + (q_told 4)).toNatClampNeg r309, upd q_mute (12 + (q_told 4)).toNatClampNeg 0, upd q_late (12 + (q_told 4)).toNatClampNeg 0, hq312, (fI_u hq_told (k := 4) ((iv_w b340 (by decide) (by decide)))), (fI_u hq_salt (k := (12 + (q_told 4)).toNatClampNeg) (w297.1)), (show (x0 2).toInt ≤ (y311 2).toInt from by omega), (show y311 3 = x0 3 from hq314.trans (hq301.trans (hq287.trans (hq10)))), (show ∀ j : Nat, (j : Int) < (q_told 1).toInt → (q_from j).toInt < (q_to j).toInt from hLT), (show ∀ j : Nat, (j : Int) < (q_told 5).toInt → (q_from (20 + j)).toInt < (q_to (20 + j)).toInt from hLD), (show RRd tT nN y311 (rtrS tT nN sS (q_told 4)) from it_f (Q := RRd tT nN y311) c1 (hrr339)), fun _ => absurd (ok_next (ok_num (ok_next (ok_num (ok_next (rr_ok hrr321 c332)))))) (fun w => ok_fail ((kq_n hwk c21).symm ▸ w)), low_t (by decide), (show y311 1 = x0 1 from hq316.trans (hq303.trans (hq289.trans (hq13)))), (show y311 10 = x0 10 from hq317.trans (hq304.trans (hq290.trans (hq14)))), (show y311 21 = x0 21 from hq318.trans (hq305.trans (hq291.trans (hq15)))), (show y311 25 = x0 25 from hq319.trans (hq306.trans (hq292.trans (hq16)))), (show y311 23 = x0 23 from hq320.trans (hq307.trans (hq293.trans (hq17)))), by rw [ht]; exact hP9, hD9⟩, hS.F ht⟩) hS.2.2 dX11_readRouter_178
          · have b341 : iv 1 1 (wS tT 9 (rtr4 tT nN sS)) := iv_neLo c330 b329 ivk_0 (by decide) (by decide)
            refine lv_iconst (v := 1) hx hb dX11_readRouter_135 ic_1 ?_
            refine lv_goto (tgt := 140) hx hb dX11_readRouter_136 rfl ?_
            refine va_iast hx hb hK hP hD hS 5 1 rfl rfl (iv_in b18 (by decide) (by decide)) dX11_readRouter_140 (fun H locs hPa hDa hS => ?_)
            clear hP hD
            have hP : va_P (dC, dI) vwCl [(ra 2, .inl (kI, 8, .inl q_told)), (ra 3, .inl (kI, 24, .inl (upd q_kind (12 + (q_told 4)).toNatClampNeg r19))), (ra 4, .inl (kI, 24, .inl (upd q_salt (12 + (q_told 4)).toNatClampNeg r296))), (ra 5, .inl (kI, 24, .inl (upd q_pace (12 + (q_told 4)).toNatClampNeg r309))), (ra 6, .inl (kI, 24, .inl (upd q_mute (12 + (q_told 4)).toNatClampNeg 0))), (ra 7, .inl (kI, 24, .inl (upd q_late (12 + (q_told 4)).toNatClampNeg 1))), (ra 1, .inl (kS, 4, .inr (.inr (.inr (.inr q_kinds))))), (m0, .inr (11, oX11 ra y311)), (ra 13, .inl (kI, 700, .inl q_tape))] H := hPa
            have hD : va_D A [(ra 2, .inl (kI, 8, .inl q_told)), (ra 3, .inl (kI, 24, .inl (upd q_kind (12 + (q_told 4)).toNatClampNeg r19))), (ra 4, .inl (kI, 24, .inl (upd q_salt (12 + (q_told 4)).toNatClampNeg r296))), (ra 5, .inl (kI, 24, .inl (upd q_pace (12 + (q_told 4)).toNatClampNeg r309))), (ra 6, .inl (kI, 24, .inl (upd q_mute (12 + (q_told 4)).toNatClampNeg 0))), (ra 7, .inl (kI, 24, .inl (upd q_late (12 + (q_told 4)).toNatClampNeg 1))), (ra 1, .inl (kS, 4, .inr (.inr (.inr (.inr q_kinds))))), (m0, .inr (11, oX11 ra y311)), (ra 13, .inl (kI, 700, .inl q_tape))] := hDa
            clear hPa hDa
            refine lv_aload_n hx hb dX11_readRouter_141 rfl (lv_at hl 2 rfl) ?_
            refine va_get (D := (dC, dI)) (ci := 11) (v := .int (y311 8)) (C := RX11) (T := TX11) (N := 61) hx hb hts hin11 hown hK hP 7 rfl rfl 22 (Nat.le_of_ble_eq_true rfl) hw_1 (fun _ h9 => h9) rfl dX11_readRouter_142 ?_
            refine lv_if_ne (tgt := 168) hx hb dX11_readRouter_145 rfl (fun c342 => ?_) (fun c342 => ?_)
            · have b343 : iv 1 5 (y311 8) := iv_neLo c342 (hq312 8 : iv 0 5 (y311 8)) ivk_0 (by decide) (by decide)
              have hrr344 : RRd tT nN y311 (manT tT nN (rtr4 tT nN sS)) := (mq_b hrr321 c342) ▸ hrr321
              refine lv_aload_n hx hb dX11_readRouter_168 rfl (lv_at hl 2 rfl) ?_
              refine va_get (D := (dC, dI)) (ci := 11) (v := .ref (ra 2)) (C := RX11) (T := TX11) (N := 61) hx hb hts hin11 hown hK hP 7 rfl rfl 3 (Nat.le_of_ble_eq_true rfl) hw_0 (fun _ h9 => h9) rfl dX11_readRouter_169 ?_
              refine lv_iconst (v := 4) hx hb dX11_readRouter_172 ic_4 ?_
              refine lv_dup2_11 hx hb dX11_readRouter_173 rfl rfl ?_
              refine va_iald hx hb hK hP 0 1 rfl rfl (vp_in_nI (n := 4) (by decide) (by decide)) dX11_readRouter_174 ?_
              refine W.eq (g2 := F0 m 175 ls [.int (q_told 4), .int 4, .ref (ra 2)]) rfl ?_
              refine lv_iconst (v := 1) hx hb dX11_readRouter_175 ic_1 ?_
              refine lv_iadd hx hb dX11_readRouter_176 ?_
              have b345 : iv 1 12 ((q_told 4) + 1) := iv_add b2 ivk_1 (by decide) (by decide) (by decide) (by decide)
              refine va_iast hx hb hK hP hD hS 0 1 rfl rfl (vp_in_nI (n := 4) (by decide) (by decide)) dX11_readRouter_177 (fun H locs hPa hDa hS => ?_)
              clear hP hD
              have hP : va_P (dC, dI) vwCl [(ra 2, .inl (kI, 8, .inl (upd q_told 4 ((q_told 4) + 1)))), (ra 3, .inl (kI, 24, .inl (upd q_kind (12 + (q_told 4)).toNatClampNeg r19))), (ra 4, .inl (kI, 24, .inl (upd q_salt (12 + (q_told 4)).toNatClampNeg r296))), (ra 5, .inl (kI, 24, .inl (upd q_pace (12 + (q_told 4)).toNatClampNeg r309))), (ra 6, .inl (kI, 24, .inl (upd q_mute (12 + (q_told 4)).toNatClampNeg 0))), (ra 7, .inl (kI, 24, .inl (upd q_late (12 + (q_told 4)).toNatClampNeg 1))), (ra 1, .inl (kS, 4, .inr (.inr (.inr (.inr q_kinds))))), (m0, .inr (11, oX11 ra y311)), (ra 13, .inl (kI, 700, .inl q_tape))] H := hPa
              have hD : va_D A [(ra 2, .inl (kI, 8, .inl (upd q_told 4 ((q_told 4) + 1)))), (ra 3, .inl (kI, 24, .inl (upd q_kind (12 + (q_told 4)).toNatClampNeg r19))), (ra 4, .inl (kI, 24, .inl (upd q_salt (12 + (q_told 4)).toNatClampNeg r296))), (ra 5, .inl (kI, 24, .inl (upd q_pace (12 + (q_told 4)).toNatClampNeg r309))), (ra 6, .inl (kI, 24, .inl (upd q_mute (12 + (q_told 4)).toNatClampNeg 0))), (ra 7, .inl (kI, 24, .inl (upd q_late (12 + (q_told 4)).toNatClampNeg 1))), (ra 1, .inl (kS, 4, .inr (.inr (.inr (.inr q_kinds))))), (m0, .inr (11, oX11 ra y311)), (ra 13, .inl (kI, 700, .inl q_tape))] := hDa
              clear hPa hDa
              have hPD9 := cl_s (wc := [(m0, .inr (11, oX11 ra y311)), (ra 2, .inl (kI, 8, .inl (upd q_told 4 ((q_told 4) + 1)))), (ra 3, .inl (kI, 24, .inl (upd q_kind (12 + (q_told 4)).toNatClampNeg r19))), (ra 4, .inl (kI, 24, .inl (upd q_salt (12 + (q_told 4)).toNatClampNeg r296))), (ra 5, .inl (kI, 24, .inl (upd q_pace (12 + (q_told 4)).toNatClampNeg r309))), (ra 6, .inl (kI, 24, .inl (upd q_mute (12 + (q_told 4)).toNatClampNeg 0))), (ra 7, .inl (kI, 24, .inl (upd q_late (12 + (q_told 4)).toNatClampNeg 1))), (ra 13, .inl (kI, 700, .inl q_tape)), (ra 1, .inl (kS, 4, .inr (.inr (.inr (.inr q_kinds)))))]) hP hD [7, 0, 1, 2, 3, 4, 5, 8, 6] rfl (by decide +kernel)
              have hP9 := hPD9.1
              have hD9 := hPD9.2
              exact W.vret hx hb hr (fun t ht hW => ⟨⟨(), rfl, trivial, y311, upd q_told 4 ((q_told 4) + 1), upd q_kind (12 + (q_told 4)).toNatClampNeg r19, upd q_salt (12 + (q_told 4)).toNatClampNeg r296, upd q_pace (12 + (q_told 4)).toNatClampNeg r309, upd q_mute (12 + (q_told 4)).toNatClampNeg 0, upd q_late (12 + (q_told 4)).toNatClampNeg 1, hq312, (fI_u hq_told (k := 4) ((iv_w b345 (by decide) (by decide)))), (fI_u hq_salt (k := (12 + (q_told 4)).toNatClampNeg) (w297.1)), (show (x0 2).toInt ≤ (y311 2).toInt from by omega), (show y311 3 = x0 3 from hq314.trans (hq301.trans (hq287.trans (hq10)))), (show ∀ j : Nat, (j : Int) < (q_told 1).toInt → (q_from j).toInt < (q_to j).toInt from hLT), (show ∀ j : Nat, (j : Int) < (q_told 5).toInt → (q_from (20 + j)).toInt < (q_to (20 + j)).toInt from hLD), (show RRd tT nN y311 (rtrS tT nN sS (q_told 4)) from it_f (Q := RRd tT nN y311) c1 (hrr344)), fun w => absurd w c342, low_t (by decide), (show y311 1 = x0 1 from hq316.trans (hq303.trans (hq289.trans (hq13)))), (show y311 10 = x0 10 from hq317.trans (hq304.trans (hq290.trans (hq14)))), (show y311 21 = x0 21 from hq318.trans (hq305.trans (hq291.trans (hq15)))), (show y311 25 = x0 25 from hq319.trans (hq306.trans (hq292.trans (hq16)))), (show y311 23 = x0 23 from hq320.trans (hq307.trans (hq293.trans (hq17)))), by rw [ht]; exact hP9, hD9⟩, hS.F ht⟩) hS.2.2 dX11_readRouter_178
            · have b346 : iv 0 0 (y311 8) := iv_eqL c342 ivk_0
              refine lv_aload_n hx hb dX11_readRouter_148 rfl (lv_at hl 2 rfl) ?_
              refine va_get (D := (dC, dI)) (ci := 11) (v := .ref (ra 6)) (C := RX11) (T := TX11) (N := 61) hx hb hts hin11 hown hK hP 7 rfl rfl 7 (Nat.le_of_ble_eq_true rfl) hw_6 (fun _ h9 => h9) rfl dX11_readRouter_149 ?_
              refine lv_iload_n hx hb dX11_readRouter_152 rfl (lv_at hl 1 rfl) ?_
              refine va_iald hx hb hK hP 4 1 rfl rfl (iv_in b18 (by decide) (by decide)) dX11_readRouter_153 ?_
              refine W.eq (g2 := F0 m 154 ls [.int 0]) (by rw [upd_eq]) ?_
              refine lv_aload_n hx hb dX11_readRouter_154 rfl (lv_at hl 2 rfl) ?_
              refine va_get (D := (dC, dI)) (ci := 11) (v := .ref (ra 7)) (C := RX11) (T := TX11) (N := 61) hx hb hts hin11 hown hK hP 7 rfl rfl 8 (Nat.le_of_ble_eq_true rfl) hw_7 (fun _ h9 => h9) rfl dX11_readRouter_155 ?_
              refine lv_iload_n hx hb dX11_readRouter_158 rfl (lv_at hl 1 rfl) ?_
              refine va_iald hx hb hK hP 5 1 rfl rfl (iv_in b18 (by decide) (by decide)) dX11_readRouter_159 ?_
              refine W.eq (g2 := F0 m 160 ls [.int 1, .int 0]) (by rw [upd_eq]) ?_
              refine lv_iadd hx hb dX11_readRouter_160 ?_
              refine lv_topi (fun z347 e348 => ?_)
              obtain rfl : z347 = (1 : Int32) := e348.trans (by decide)
              refine lv_if_le (tgt := 168) hx hb dX11_readRouter_161 rfl (fun c9 => absurd c9 (by decide)) (fun _ => ?_)
              refine lv_aload_n hx hb dX11_readRouter_164 rfl (lv_at hl 2 rfl) ?_
              obtain ⟨hPc, hDc, hFc, hJn⟩ := cl_a (wc := [(m0, .inr (11, oX11 ra y311)), (ra 13, .inl (kI, 700, .inl q_tape))]) (wr := [(ra 2, .inl (kI, 8, .inl q_told)), (ra 3, .inl (kI, 24, .inl (upd q_kind (12 + (q_told 4)).toNatClampNeg r19))), (ra 4, .inl (kI, 24, .inl (upd q_salt (12 + (q_told 4)).toNatClampNeg r296))), (ra 5, .inl (kI, 24, .inl (upd q_pace (12 + (q_told 4)).toNatClampNeg r309))), (ra 6, .inl (kI, 24, .inl (upd q_mute (12 + (q_told 4)).toNatClampNeg 0))), (ra 7, .inl (kI, 24, .inl (upd q_late (12 + (q_told 4)).toNatClampNeg 1))), (ra 1, .inl (kS, 4, .inr (.inr (.inr (.inr q_kinds)))))]) hP hD hS hA [7, 8] [0, 1, 2, 3, 4, 5, 6] rfl rfl (by decide +kernel)
              refine va_callv (va_runV (As := []) (rest := []) ⟨hx, hb, hml, hown, hts⟩ (s11_stepOn l dC dI kB kI kJ kZ kC kS H.size m0 ra y311 q_tape tT nN (nextT tT nN (rtr4 tT nN sS)) (hq312) (hq_tape) (hrr321.2) (stp_of hrr321) (hTQ)) (cwV 0 hts gX11_readRouter_X11_stepOn rfl rfl rfl (by decide +kernel) ⟨Nat.le_of_ble_eq_true rfl, Nat.le_of_ble_eq_true rfl⟩) ⟨fun a U g mk q => by obtain ⟨q0, q1, qP, qE, qD⟩ := q; exact ⟨q0, q1, qP, kE_call qE, qD⟩, va_recv hK hP (ci := 11) (q0 := 7) rfl rfl, fun U hU hW => ⟨rfl, by rw [hU], by rw [hU]; exact hPc, kE_warm hW hE, hDc.weaken (fun _ _ _ _ => trivial)⟩⟩ rfl rfl hl.1 rfl (lv_room (Nat.le_of_ble_eq_true rfl)) dX11_readRouter_165 ⟨Nat.le_of_ble_eq_true rfl, Nat.le_of_ble_eq_true rfl⟩) hS (fun q _ h => hFc q h) hFc (fun u t H locs ht hvm w350 hB hz1 hk1 hS => ?_)
              obtain ⟨y351, hq352, hq353, hq354, hq355, hq356, hq357, hq358, hq359, hq360, hq361, hP1, hD1⟩ := hB
              try dsimp only at w350
              obtain ⟨hPa, hDa⟩ := hJn (w1 := [(m0, .inr (11, oX11 ra y351)), (ra 13, .inl (kI, 700, .inl q_tape))]) hk1 ht hP1 hD1
              clear hP hD hPc hDc hFc hJn hP1 hD1 hk1
              have hP : va_P (dC, dI) vwCl [(ra 2, .inl (kI, 8, .inl q_told)), (ra 3, .inl (kI, 24, .inl (upd q_kind (12 + (q_told 4)).toNatClampNeg r19))), (ra 4, .inl (kI, 24, .inl (upd q_salt (12 + (q_told 4)).toNatClampNeg r296))), (ra 5, .inl (kI, 24, .inl (upd q_pace (12 + (q_told 4)).toNatClampNeg r309))), (ra 6, .inl (kI, 24, .inl (upd q_mute (12 + (q_told 4)).toNatClampNeg 0))), (ra 7, .inl (kI, 24, .inl (upd q_late (12 + (q_told 4)).toNatClampNeg 1))), (ra 1, .inl (kS, 4, .inr (.inr (.inr (.inr q_kinds))))), (m0, .inr (11, oX11 ra y351)), (ra 13, .inl (kI, 700, .inl q_tape))] H := hPa
              have hD : va_D A [(ra 2, .inl (kI, 8, .inl q_told)), (ra 3, .inl (kI, 24, .inl (upd q_kind (12 + (q_told 4)).toNatClampNeg r19))), (ra 4, .inl (kI, 24, .inl (upd q_salt (12 + (q_told 4)).toNatClampNeg r296))), (ra 5, .inl (kI, 24, .inl (upd q_pace (12 + (q_told 4)).toNatClampNeg r309))), (ra 6, .inl (kI, 24, .inl (upd q_mute (12 + (q_told 4)).toNatClampNeg 0))), (ra 7, .inl (kI, 24, .inl (upd q_late (12 + (q_told 4)).toNatClampNeg 1))), (ra 1, .inl (kS, 4, .inr (.inr (.inr (.inr q_kinds))))), (m0, .inr (11, oX11 ra y351)), (ra 13, .inl (kI, 700, .inl q_tape))] := hDa
              clear hPa hDa
              refine W.widen (k := 0) (n := 0) (Nat.le_of_ble_eq_true rfl) (Nat.le_of_ble_eq_true rfl) ?_
              have hrr362 : RRd tT nN y351 (manT tT nN (rtr4 tT nN sS)) := (mq_s hrr321 c342 (Or.inr c330)) ▸ hq356
              refine lv_aload_n hx hb dX11_readRouter_168 rfl (lv_at hl 2 rfl) ?_
              refine va_get (D := (dC, dI)) (ci := 11) (v := .ref (ra 2)) (C := RX11) (T := TX11) (N := 61) hx hb hts hin11 hown hK hP 7 rfl rfl 3 (Nat.le_of_ble_eq_true rfl) hw_0 (fun _ h9 => h9) rfl dX11_readRouter_169 ?_
              refine lv_iconst (v := 4) hx hb dX11_readRouter_172 ic_4 ?_
              refine lv_dup2_11 hx hb dX11_readRouter_173 rfl rfl ?_
              refine va_iald hx hb hK hP 0 1 rfl rfl (vp_in_nI (n := 4) (by decide) (by decide)) dX11_readRouter_174 ?_
              refine W.eq (g2 := F0 m 175 ls [.int (q_told 4), .int 4, .ref (ra 2)]) rfl ?_
              refine lv_iconst (v := 1) hx hb dX11_readRouter_175 ic_1 ?_
              refine lv_iadd hx hb dX11_readRouter_176 ?_
              have b363 : iv 1 12 ((q_told 4) + 1) := iv_add b2 ivk_1 (by decide) (by decide) (by decide) (by decide)
              refine va_iast hx hb hK hP hD hS 0 1 rfl rfl (vp_in_nI (n := 4) (by decide) (by decide)) dX11_readRouter_177 (fun H locs hPa hDa hS => ?_)
              clear hP hD
              have hP : va_P (dC, dI) vwCl [(ra 2, .inl (kI, 8, .inl (upd q_told 4 ((q_told 4) + 1)))), (ra 3, .inl (kI, 24, .inl (upd q_kind (12 + (q_told 4)).toNatClampNeg r19))), (ra 4, .inl (kI, 24, .inl (upd q_salt (12 + (q_told 4)).toNatClampNeg r296))), (ra 5, .inl (kI, 24, .inl (upd q_pace (12 + (q_told 4)).toNatClampNeg r309))), (ra 6, .inl (kI, 24, .inl (upd q_mute (12 + (q_told 4)).toNatClampNeg 0))), (ra 7, .inl (kI, 24, .inl (upd q_late (12 + (q_told 4)).toNatClampNeg 1))), (ra 1, .inl (kS, 4, .inr (.inr (.inr (.inr q_kinds))))), (m0, .inr (11, oX11 ra y351)), (ra 13, .inl (kI, 700, .inl q_tape))] H := hPa
              have hD : va_D A [(ra 2, .inl (kI, 8, .inl (upd q_told 4 ((q_told 4) + 1)))), (ra 3, .inl (kI, 24, .inl (upd q_kind (12 + (q_told 4)).toNatClampNeg r19))), (ra 4, .inl (kI, 24, .inl (upd q_salt (12 + (q_told 4)).toNatClampNeg r296))), (ra 5, .inl (kI, 24, .inl (upd q_pace (12 + (q_told 4)).toNatClampNeg r309))), (ra 6, .inl (kI, 24, .inl (upd q_mute (12 + (q_told 4)).toNatClampNeg 0))), (ra 7, .inl (kI, 24, .inl (upd q_late (12 + (q_told 4)).toNatClampNeg 1))), (ra 1, .inl (kS, 4, .inr (.inr (.inr (.inr q_kinds))))), (m0, .inr (11, oX11 ra y351)), (ra 13, .inl (kI, 700, .inl q_tape))] := hDa
              clear hPa hDa
              have hPD9 := cl_s (wc := [(m0, .inr (11, oX11 ra y351)), (ra 2, .inl (kI, 8, .inl (upd q_told 4 ((q_told 4) + 1)))), (ra 3, .inl (kI, 24, .inl (upd q_kind (12 + (q_told 4)).toNatClampNeg r19))), (ra 4, .inl (kI, 24, .inl (upd q_salt (12 + (q_told 4)).toNatClampNeg r296))), (ra 5, .inl (kI, 24, .inl (upd q_pace (12 + (q_told 4)).toNatClampNeg r309))), (ra 6, .inl (kI, 24, .inl (upd q_mute (12 + (q_told 4)).toNatClampNeg 0))), (ra 7, .inl (kI, 24, .inl (upd q_late (12 + (q_told 4)).toNatClampNeg 1))), (ra 13, .inl (kI, 700, .inl q_tape)), (ra 1, .inl (kS, 4, .inr (.inr (.inr (.inr q_kinds)))))]) hP hD [7, 0, 1, 2, 3, 4, 5, 8, 6] rfl (by decide +kernel)
              have hP9 := hPD9.1
              have hD9 := hPD9.2
              exact W.vret hx hb hr (fun t ht hW => ⟨⟨(), rfl, trivial, y351, upd q_told 4 ((q_told 4) + 1), upd q_kind (12 + (q_told 4)).toNatClampNeg r19, upd q_salt (12 + (q_told 4)).toNatClampNeg r296, upd q_pace (12 + (q_told 4)).toNatClampNeg r309, upd q_mute (12 + (q_told 4)).toNatClampNeg 0, upd q_late (12 + (q_told 4)).toNatClampNeg 1, hq352, (fI_u hq_told (k := 4) ((iv_w b363 (by decide) (by decide)))), (fI_u hq_salt (k := (12 + (q_told 4)).toNatClampNeg) (w297.1)), (show (x0 2).toInt ≤ (y351 2).toInt from by omega), (show y351 3 = x0 3 from hq354.trans (hq314.trans (hq301.trans (hq287.trans (hq10))))), (show ∀ j : Nat, (j : Int) < (q_told 1).toInt → (q_from j).toInt < (q_to j).toInt from hLT), (show ∀ j : Nat, (j : Int) < (q_told 5).toInt → (q_from (20 + j)).toInt < (q_to (20 + j)).toInt from hLD), (show RRd tT nN y351 (rtrS tT nN sS (q_told 4)) from it_f (Q := RRd tT nN y351) c1 (hrr362)), fun _ => absurd (ok_next (ok_num (ok_next (ok_num (ok_next (rr_ok hrr321 c342)))))) (fun w => ok_fail ((kq_n hwk c21).symm ▸ w)), low_t (by decide), (show y351 1 = x0 1 from hq357.trans (hq316.trans (hq303.trans (hq289.trans (hq13))))), (show y351 10 = x0 10 from hq358.trans (hq317.trans (hq304.trans (hq290.trans (hq14))))), (show y351 21 = x0 21 from hq359.trans (hq318.trans (hq305.trans (hq291.trans (hq15))))), (show y351 25 = x0 25 from hq360.trans (hq319.trans (hq306.trans (hq292.trans (hq16))))), (show y351 23 = x0 23 from hq361.trans (hq320.trans (hq307.trans (hq293.trans (hq17))))), by rw [ht]; exact hP9, hD9⟩, hS.F ht⟩) hS.2.2 dX11_readRouter_178
        · have b364 : iv 1 1 (wS tT 8 (rtr4 tT nN sS)) := iv_neLo c325 b324 ivk_0 (by decide) (by decide)
          refine lv_iconst (v := 1) hx hb dX11_readRouter_115 ic_1 ?_
          refine lv_goto (tgt := 120) hx hb dX11_readRouter_116 rfl ?_
          refine va_iast hx hb hK hP hD hS 4 1 rfl rfl (iv_in b18 (by decide) (by decide)) dX11_readRouter_120 (fun H locs hPa hDa hS => ?_)
          clear hP hD
          have hP : va_P (dC, dI) vwCl [(ra 2, .inl (kI, 8, .inl q_told)), (ra 3, .inl (kI, 24, .inl (upd q_kind (12 + (q_told 4)).toNatClampNeg r19))), (ra 4, .inl (kI, 24, .inl (upd q_salt (12 + (q_told 4)).toNatClampNeg r296))), (ra 5, .inl (kI, 24, .inl (upd q_pace (12 + (q_told 4)).toNatClampNeg r309))), (ra 6, .inl (kI, 24, .inl (upd q_mute (12 + (q_told 4)).toNatClampNeg 1))), (ra 7, .inl (kI, 24, .inl q_late)), (ra 1, .inl (kS, 4, .inr (.inr (.inr (.inr q_kinds))))), (m0, .inr (11, oX11 ra y311)), (ra 13, .inl (kI, 700, .inl q_tape))] H := hPa
          have hD : va_D A [(ra 2, .inl (kI, 8, .inl q_told)), (ra 3, .inl (kI, 24, .inl (upd q_kind (12 + (q_told 4)).toNatClampNeg r19))), (ra 4, .inl (kI, 24, .inl (upd q_salt (12 + (q_told 4)).toNatClampNeg r296))), (ra 5, .inl (kI, 24, .inl (upd q_pace (12 + (q_told 4)).toNatClampNeg r309))), (ra 6, .inl (kI, 24, .inl (upd q_mute (12 + (q_told 4)).toNatClampNeg 1))), (ra 7, .inl (kI, 24, .inl q_late)), (ra 1, .inl (kS, 4, .inr (.inr (.inr (.inr q_kinds))))), (m0, .inr (11, oX11 ra y311)), (ra 13, .inl (kI, 700, .inl q_tape))] := hDa
          clear hPa hDa
          refine lv_aload_n hx hb dX11_readRouter_121 rfl (lv_at hl 2 rfl) ?_
          refine va_get (D := (dC, dI)) (ci := 11) (v := .ref (ra 7)) (C := RX11) (T := TX11) (N := 61) hx hb hts hin11 hown hK hP 7 rfl rfl 8 (Nat.le_of_ble_eq_true rfl) hw_7 (fun _ h9 => h9) rfl dX11_readRouter_122 ?_
          refine lv_iload_n hx hb dX11_readRouter_125 rfl (lv_at hl 1 rfl) ?_
          refine lv_aload_n hx hb dX11_readRouter_126 rfl (lv_at hl 2 rfl) ?_
          refine va_ldcS hx hb hown hKL.2.2.2.2.2.2.2.2.2.2.2.2.2.2.2.2.2.2.2.2.2.2 dX11_readRouter_127 ?_
          obtain ⟨hPc, hDc, hFc, hJn⟩ := cl_a (wc := [(m0, .inr (11, oX11 ra y311)), (ra 13, .inl (kI, 700, .inl q_tape))]) (wr := [(ra 2, .inl (kI, 8, .inl q_told)), (ra 3, .inl (kI, 24, .inl (upd q_kind (12 + (q_told 4)).toNatClampNeg r19))), (ra 4, .inl (kI, 24, .inl (upd q_salt (12 + (q_told 4)).toNatClampNeg r296))), (ra 5, .inl (kI, 24, .inl (upd q_pace (12 + (q_told 4)).toNatClampNeg r309))), (ra 6, .inl (kI, 24, .inl (upd q_mute (12 + (q_told 4)).toNatClampNeg 1))), (ra 7, .inl (kI, 24, .inl q_late)), (ra 1, .inl (kS, 4, .inr (.inr (.inr (.inr q_kinds)))))]) hP hD hS hA [7, 8] [0, 1, 2, 3, 4, 5, 6] rfl rfl (by decide +kernel)
          refine va_calli (va_runV (As := [.ref (adK 9)]) (rest := [.int (12 + (q_told 4)), .ref (ra 7)]) ⟨hx, hb, hml, hown, hts⟩ (s11_is l dC dI kB kI kJ kZ kC kS H.size adK adV m0 ra y311 q_tape 9 tT nN (rtr4 tT nN sS) (hq312) (hq_tape) ((by decide)) (hrr321) (hTQ)) (cwV 1 hts gX11_readRouter_X11_is rfl rfl rfl (by decide +kernel) ⟨Nat.le_of_ble_eq_true rfl, Nat.le_of_ble_eq_true rfl⟩) ⟨fun a U g mk q => by obtain ⟨q0, q1, qP, qE, qD, qL⟩ := q; exact ⟨q0, q1, qP, kE_call qE, qD, kL_call qL⟩, va_recv hK hP (ci := 11) (q0 := 7) rfl rfl, fun U hU hW => ⟨rfl, by rw [hU], by rw [hU]; exact hPc, kE_warm hW hE, hDc.weaken (fun _ _ _ _ => trivial), kL_at hKL hS hFc hW hU⟩⟩ rfl rfl hl.1 rfl (lv_room (Nat.le_of_ble_eq_true rfl)) dX11_readRouter_129 ⟨Nat.le_of_ble_eq_true rfl, Nat.le_of_ble_eq_true rfl⟩) hS (fun q _ h => hFc q h) hFc (fun r365 u t H locs ht hvm w366 hB hz1 hk1 hS => ?_)
          obtain ⟨hP1, hD1⟩ := hB
          try dsimp only at w366
          obtain ⟨hPa, hDa⟩ := hJn (w1 := [(m0, .inr (11, oX11 ra y311)), (ra 13, .inl (kI, 700, .inl q_tape))]) hk1 ht hP1 hD1
          clear hP hD hPc hDc hFc hJn hP1 hD1 hk1
          have hP : va_P (dC, dI) vwCl [(ra 2, .inl (kI, 8, .inl q_told)), (ra 3, .inl (kI, 24, .inl (upd q_kind (12 + (q_told 4)).toNatClampNeg r19))), (ra 4, .inl (kI, 24, .inl (upd q_salt (12 + (q_told 4)).toNatClampNeg r296))), (ra 5, .inl (kI, 24, .inl (upd q_pace (12 + (q_told 4)).toNatClampNeg r309))), (ra 6, .inl (kI, 24, .inl (upd q_mute (12 + (q_told 4)).toNatClampNeg 1))), (ra 7, .inl (kI, 24, .inl q_late)), (ra 1, .inl (kS, 4, .inr (.inr (.inr (.inr q_kinds))))), (m0, .inr (11, oX11 ra y311)), (ra 13, .inl (kI, 700, .inl q_tape))] H := hPa
          have hD : va_D A [(ra 2, .inl (kI, 8, .inl q_told)), (ra 3, .inl (kI, 24, .inl (upd q_kind (12 + (q_told 4)).toNatClampNeg r19))), (ra 4, .inl (kI, 24, .inl (upd q_salt (12 + (q_told 4)).toNatClampNeg r296))), (ra 5, .inl (kI, 24, .inl (upd q_pace (12 + (q_told 4)).toNatClampNeg r309))), (ra 6, .inl (kI, 24, .inl (upd q_mute (12 + (q_told 4)).toNatClampNeg 1))), (ra 7, .inl (kI, 24, .inl q_late)), (ra 1, .inl (kS, 4, .inr (.inr (.inr (.inr q_kinds))))), (m0, .inr (11, oX11 ra y311)), (ra 13, .inl (kI, 700, .inl q_tape))] := hDa
          clear hPa hDa
          refine W.widen (k := 0) (n := 0) (Nat.le_of_ble_eq_true rfl) (Nat.le_of_ble_eq_true rfl) ?_
          obtain ⟨w366, b367⟩ := w366
          subst w366
          refine lv_if_eq (tgt := 139) hx hb dX11_readRouter_132 rfl (fun c368 => ?_) (fun c368 => ?_)
          · have b369 : iv 0 0 (wS tT 9 (rtr4 tT nN sS)) := iv_eqL c368 ivk_0
            refine lv_iconst (v := 0) hx hb dX11_readRouter_139 ic_0 ?_
            refine va_iast hx hb hK hP hD hS 5 1 rfl rfl (iv_in b18 (by decide) (by decide)) dX11_readRouter_140 (fun H locs hPa hDa hS => ?_)
            clear hP hD
            have hP : va_P (dC, dI) vwCl [(ra 2, .inl (kI, 8, .inl q_told)), (ra 3, .inl (kI, 24, .inl (upd q_kind (12 + (q_told 4)).toNatClampNeg r19))), (ra 4, .inl (kI, 24, .inl (upd q_salt (12 + (q_told 4)).toNatClampNeg r296))), (ra 5, .inl (kI, 24, .inl (upd q_pace (12 + (q_told 4)).toNatClampNeg r309))), (ra 6, .inl (kI, 24, .inl (upd q_mute (12 + (q_told 4)).toNatClampNeg 1))), (ra 7, .inl (kI, 24, .inl (upd q_late (12 + (q_told 4)).toNatClampNeg 0))), (ra 1, .inl (kS, 4, .inr (.inr (.inr (.inr q_kinds))))), (m0, .inr (11, oX11 ra y311)), (ra 13, .inl (kI, 700, .inl q_tape))] H := hPa
            have hD : va_D A [(ra 2, .inl (kI, 8, .inl q_told)), (ra 3, .inl (kI, 24, .inl (upd q_kind (12 + (q_told 4)).toNatClampNeg r19))), (ra 4, .inl (kI, 24, .inl (upd q_salt (12 + (q_told 4)).toNatClampNeg r296))), (ra 5, .inl (kI, 24, .inl (upd q_pace (12 + (q_told 4)).toNatClampNeg r309))), (ra 6, .inl (kI, 24, .inl (upd q_mute (12 + (q_told 4)).toNatClampNeg 1))), (ra 7, .inl (kI, 24, .inl (upd q_late (12 + (q_told 4)).toNatClampNeg 0))), (ra 1, .inl (kS, 4, .inr (.inr (.inr (.inr q_kinds))))), (m0, .inr (11, oX11 ra y311)), (ra 13, .inl (kI, 700, .inl q_tape))] := hDa
            clear hPa hDa
            refine lv_aload_n hx hb dX11_readRouter_141 rfl (lv_at hl 2 rfl) ?_
            refine va_get (D := (dC, dI)) (ci := 11) (v := .int (y311 8)) (C := RX11) (T := TX11) (N := 61) hx hb hts hin11 hown hK hP 7 rfl rfl 22 (Nat.le_of_ble_eq_true rfl) hw_1 (fun _ h9 => h9) rfl dX11_readRouter_142 ?_
            refine lv_if_ne (tgt := 168) hx hb dX11_readRouter_145 rfl (fun c370 => ?_) (fun c370 => ?_)
            · have b371 : iv 1 5 (y311 8) := iv_neLo c370 (hq312 8 : iv 0 5 (y311 8)) ivk_0 (by decide) (by decide)
              have hrr372 : RRd tT nN y311 (manT tT nN (rtr4 tT nN sS)) := (mq_b hrr321 c370) ▸ hrr321
              refine lv_aload_n hx hb dX11_readRouter_168 rfl (lv_at hl 2 rfl) ?_
              refine va_get (D := (dC, dI)) (ci := 11) (v := .ref (ra 2)) (C := RX11) (T := TX11) (N := 61) hx hb hts hin11 hown hK hP 7 rfl rfl 3 (Nat.le_of_ble_eq_true rfl) hw_0 (fun _ h9 => h9) rfl dX11_readRouter_169 ?_
              refine lv_iconst (v := 4) hx hb dX11_readRouter_172 ic_4 ?_
              refine lv_dup2_11 hx hb dX11_readRouter_173 rfl rfl ?_
              refine va_iald hx hb hK hP 0 1 rfl rfl (vp_in_nI (n := 4) (by decide) (by decide)) dX11_readRouter_174 ?_
              refine W.eq (g2 := F0 m 175 ls [.int (q_told 4), .int 4, .ref (ra 2)]) rfl ?_
              refine lv_iconst (v := 1) hx hb dX11_readRouter_175 ic_1 ?_
              refine lv_iadd hx hb dX11_readRouter_176 ?_
              have b373 : iv 1 12 ((q_told 4) + 1) := iv_add b2 ivk_1 (by decide) (by decide) (by decide) (by decide)
              refine va_iast hx hb hK hP hD hS 0 1 rfl rfl (vp_in_nI (n := 4) (by decide) (by decide)) dX11_readRouter_177 (fun H locs hPa hDa hS => ?_)
              clear hP hD
              have hP : va_P (dC, dI) vwCl [(ra 2, .inl (kI, 8, .inl (upd q_told 4 ((q_told 4) + 1)))), (ra 3, .inl (kI, 24, .inl (upd q_kind (12 + (q_told 4)).toNatClampNeg r19))), (ra 4, .inl (kI, 24, .inl (upd q_salt (12 + (q_told 4)).toNatClampNeg r296))), (ra 5, .inl (kI, 24, .inl (upd q_pace (12 + (q_told 4)).toNatClampNeg r309))), (ra 6, .inl (kI, 24, .inl (upd q_mute (12 + (q_told 4)).toNatClampNeg 1))), (ra 7, .inl (kI, 24, .inl (upd q_late (12 + (q_told 4)).toNatClampNeg 0))), (ra 1, .inl (kS, 4, .inr (.inr (.inr (.inr q_kinds))))), (m0, .inr (11, oX11 ra y311)), (ra 13, .inl (kI, 700, .inl q_tape))] H := hPa
              have hD : va_D A [(ra 2, .inl (kI, 8, .inl (upd q_told 4 ((q_told 4) + 1)))), (ra 3, .inl (kI, 24, .inl (upd q_kind (12 + (q_told 4)).toNatClampNeg r19))), (ra 4, .inl (kI, 24, .inl (upd q_salt (12 + (q_told 4)).toNatClampNeg r296))), (ra 5, .inl (kI, 24, .inl (upd q_pace (12 + (q_told 4)).toNatClampNeg r309))), (ra 6, .inl (kI, 24, .inl (upd q_mute (12 + (q_told 4)).toNatClampNeg 1))), (ra 7, .inl (kI, 24, .inl (upd q_late (12 + (q_told 4)).toNatClampNeg 0))), (ra 1, .inl (kS, 4, .inr (.inr (.inr (.inr q_kinds))))), (m0, .inr (11, oX11 ra y311)), (ra 13, .inl (kI, 700, .inl q_tape))] := hDa
              clear hPa hDa
              have hPD9 := cl_s (wc := [(m0, .inr (11, oX11 ra y311)), (ra 2, .inl (kI, 8, .inl (upd q_told 4 ((q_told 4) + 1)))), (ra 3, .inl (kI, 24, .inl (upd q_kind (12 + (q_told 4)).toNatClampNeg r19))), (ra 4, .inl (kI, 24, .inl (upd q_salt (12 + (q_told 4)).toNatClampNeg r296))), (ra 5, .inl (kI, 24, .inl (upd q_pace (12 + (q_told 4)).toNatClampNeg r309))), (ra 6, .inl (kI, 24, .inl (upd q_mute (12 + (q_told 4)).toNatClampNeg 1))), (ra 7, .inl (kI, 24, .inl (upd q_late (12 + (q_told 4)).toNatClampNeg 0))), (ra 13, .inl (kI, 700, .inl q_tape)), (ra 1, .inl (kS, 4, .inr (.inr (.inr (.inr q_kinds)))))]) hP hD [7, 0, 1, 2, 3, 4, 5, 8, 6] rfl (by decide +kernel)
              have hP9 := hPD9.1
              have hD9 := hPD9.2
              exact W.vret hx hb hr (fun t ht hW => ⟨⟨(), rfl, trivial, y311, upd q_told 4 ((q_told 4) + 1), upd q_kind (12 + (q_told 4)).toNatClampNeg r19, upd q_salt (12 + (q_told 4)).toNatClampNeg r296, upd q_pace (12 + (q_told 4)).toNatClampNeg r309, upd q_mute (12 + (q_told 4)).toNatClampNeg 1, upd q_late (12 + (q_told 4)).toNatClampNeg 0, hq312, (fI_u hq_told (k := 4) ((iv_w b373 (by decide) (by decide)))), (fI_u hq_salt (k := (12 + (q_told 4)).toNatClampNeg) (w297.1)), (show (x0 2).toInt ≤ (y311 2).toInt from by omega), (show y311 3 = x0 3 from hq314.trans (hq301.trans (hq287.trans (hq10)))), (show ∀ j : Nat, (j : Int) < (q_told 1).toInt → (q_from j).toInt < (q_to j).toInt from hLT), (show ∀ j : Nat, (j : Int) < (q_told 5).toInt → (q_from (20 + j)).toInt < (q_to (20 + j)).toInt from hLD), (show RRd tT nN y311 (rtrS tT nN sS (q_told 4)) from it_f (Q := RRd tT nN y311) c1 (hrr372)), fun w => absurd w c370, low_t (by decide), (show y311 1 = x0 1 from hq316.trans (hq303.trans (hq289.trans (hq13)))), (show y311 10 = x0 10 from hq317.trans (hq304.trans (hq290.trans (hq14)))), (show y311 21 = x0 21 from hq318.trans (hq305.trans (hq291.trans (hq15)))), (show y311 25 = x0 25 from hq319.trans (hq306.trans (hq292.trans (hq16)))), (show y311 23 = x0 23 from hq320.trans (hq307.trans (hq293.trans (hq17)))), by rw [ht]; exact hP9, hD9⟩, hS.F ht⟩) hS.2.2 dX11_readRouter_178
            · have b374 : iv 0 0 (y311 8) := iv_eqL c370 ivk_0
              refine lv_aload_n hx hb dX11_readRouter_148 rfl (lv_at hl 2 rfl) ?_
              refine va_get (D := (dC, dI)) (ci := 11) (v := .ref (ra 6)) (C := RX11) (T := TX11) (N := 61) hx hb hts hin11 hown hK hP 7 rfl rfl 7 (Nat.le_of_ble_eq_true rfl) hw_6 (fun _ h9 => h9) rfl dX11_readRouter_149 ?_
              refine lv_iload_n hx hb dX11_readRouter_152 rfl (lv_at hl 1 rfl) ?_
              refine va_iald hx hb hK hP 4 1 rfl rfl (iv_in b18 (by decide) (by decide)) dX11_readRouter_153 ?_
              refine W.eq (g2 := F0 m 154 ls [.int 1]) (by rw [upd_eq]) ?_
              refine lv_aload_n hx hb dX11_readRouter_154 rfl (lv_at hl 2 rfl) ?_
              refine va_get (D := (dC, dI)) (ci := 11) (v := .ref (ra 7)) (C := RX11) (T := TX11) (N := 61) hx hb hts hin11 hown hK hP 7 rfl rfl 8 (Nat.le_of_ble_eq_true rfl) hw_7 (fun _ h9 => h9) rfl dX11_readRouter_155 ?_
              refine lv_iload_n hx hb dX11_readRouter_158 rfl (lv_at hl 1 rfl) ?_
              refine va_iald hx hb hK hP 5 1 rfl rfl (iv_in b18 (by decide) (by decide)) dX11_readRouter_159 ?_
              refine W.eq (g2 := F0 m 160 ls [.int 0, .int 1]) (by rw [upd_eq]) ?_
              refine lv_iadd hx hb dX11_readRouter_160 ?_
              refine lv_topi (fun z375 e376 => ?_)
              obtain rfl : z375 = (1 : Int32) := e376.trans (by decide)
              refine lv_if_le (tgt := 168) hx hb dX11_readRouter_161 rfl (fun c9 => absurd c9 (by decide)) (fun _ => ?_)
              refine lv_aload_n hx hb dX11_readRouter_164 rfl (lv_at hl 2 rfl) ?_
              obtain ⟨hPc, hDc, hFc, hJn⟩ := cl_a (wc := [(m0, .inr (11, oX11 ra y311)), (ra 13, .inl (kI, 700, .inl q_tape))]) (wr := [(ra 2, .inl (kI, 8, .inl q_told)), (ra 3, .inl (kI, 24, .inl (upd q_kind (12 + (q_told 4)).toNatClampNeg r19))), (ra 4, .inl (kI, 24, .inl (upd q_salt (12 + (q_told 4)).toNatClampNeg r296))), (ra 5, .inl (kI, 24, .inl (upd q_pace (12 + (q_told 4)).toNatClampNeg r309))), (ra 6, .inl (kI, 24, .inl (upd q_mute (12 + (q_told 4)).toNatClampNeg 1))), (ra 7, .inl (kI, 24, .inl (upd q_late (12 + (q_told 4)).toNatClampNeg 0))), (ra 1, .inl (kS, 4, .inr (.inr (.inr (.inr q_kinds)))))]) hP hD hS hA [7, 8] [0, 1, 2, 3, 4, 5, 6] rfl rfl (by decide +kernel)
              refine va_callv (va_runV (As := []) (rest := []) ⟨hx, hb, hml, hown, hts⟩ (s11_stepOn l dC dI kB kI kJ kZ kC kS H.size m0 ra y311 q_tape tT nN (nextT tT nN (rtr4 tT nN sS)) (hq312) (hq_tape) (hrr321.2) (stp_of hrr321) (hTQ)) (cwV 0 hts gX11_readRouter_X11_stepOn rfl rfl rfl (by decide +kernel) ⟨Nat.le_of_ble_eq_true rfl, Nat.le_of_ble_eq_true rfl⟩) ⟨fun a U g mk q => by obtain ⟨q0, q1, qP, qE, qD⟩ := q; exact ⟨q0, q1, qP, kE_call qE, qD⟩, va_recv hK hP (ci := 11) (q0 := 7) rfl rfl, fun U hU hW => ⟨rfl, by rw [hU], by rw [hU]; exact hPc, kE_warm hW hE, hDc.weaken (fun _ _ _ _ => trivial)⟩⟩ rfl rfl hl.1 rfl (lv_room (Nat.le_of_ble_eq_true rfl)) dX11_readRouter_165 ⟨Nat.le_of_ble_eq_true rfl, Nat.le_of_ble_eq_true rfl⟩) hS (fun q _ h => hFc q h) hFc (fun u t H locs ht hvm w378 hB hz1 hk1 hS => ?_)
              obtain ⟨y379, hq380, hq381, hq382, hq383, hq384, hq385, hq386, hq387, hq388, hq389, hP1, hD1⟩ := hB
              try dsimp only at w378
              obtain ⟨hPa, hDa⟩ := hJn (w1 := [(m0, .inr (11, oX11 ra y379)), (ra 13, .inl (kI, 700, .inl q_tape))]) hk1 ht hP1 hD1
              clear hP hD hPc hDc hFc hJn hP1 hD1 hk1
              have hP : va_P (dC, dI) vwCl [(ra 2, .inl (kI, 8, .inl q_told)), (ra 3, .inl (kI, 24, .inl (upd q_kind (12 + (q_told 4)).toNatClampNeg r19))), (ra 4, .inl (kI, 24, .inl (upd q_salt (12 + (q_told 4)).toNatClampNeg r296))), (ra 5, .inl (kI, 24, .inl (upd q_pace (12 + (q_told 4)).toNatClampNeg r309))), (ra 6, .inl (kI, 24, .inl (upd q_mute (12 + (q_told 4)).toNatClampNeg 1))), (ra 7, .inl (kI, 24, .inl (upd q_late (12 + (q_told 4)).toNatClampNeg 0))), (ra 1, .inl (kS, 4, .inr (.inr (.inr (.inr q_kinds))))), (m0, .inr (11, oX11 ra y379)), (ra 13, .inl (kI, 700, .inl q_tape))] H := hPa
              have hD : va_D A [(ra 2, .inl (kI, 8, .inl q_told)), (ra 3, .inl (kI, 24, .inl (upd q_kind (12 + (q_told 4)).toNatClampNeg r19))), (ra 4, .inl (kI, 24, .inl (upd q_salt (12 + (q_told 4)).toNatClampNeg r296))), (ra 5, .inl (kI, 24, .inl (upd q_pace (12 + (q_told 4)).toNatClampNeg r309))), (ra 6, .inl (kI, 24, .inl (upd q_mute (12 + (q_told 4)).toNatClampNeg 1))), (ra 7, .inl (kI, 24, .inl (upd q_late (12 + (q_told 4)).toNatClampNeg 0))), (ra 1, .inl (kS, 4, .inr (.inr (.inr (.inr q_kinds))))), (m0, .inr (11, oX11 ra y379)), (ra 13, .inl (kI, 700, .inl q_tape))] := hDa
              clear hPa hDa
              refine W.widen (k := 0) (n := 0) (Nat.le_of_ble_eq_true rfl) (Nat.le_of_ble_eq_true rfl) ?_
              have hrr390 : RRd tT nN y379 (manT tT nN (rtr4 tT nN sS)) := (mq_s hrr321 c370 (Or.inl c325)) ▸ hq384
              refine lv_aload_n hx hb dX11_readRouter_168 rfl (lv_at hl 2 rfl) ?_
              refine va_get (D := (dC, dI)) (ci := 11) (v := .ref (ra 2)) (C := RX11) (T := TX11) (N := 61) hx hb hts hin11 hown hK hP 7 rfl rfl 3 (Nat.le_of_ble_eq_true rfl) hw_0 (fun _ h9 => h9) rfl dX11_readRouter_169 ?_
              refine lv_iconst (v := 4) hx hb dX11_readRouter_172 ic_4 ?_
              refine lv_dup2_11 hx hb dX11_readRouter_173 rfl rfl ?_
              refine va_iald hx hb hK hP 0 1 rfl rfl (vp_in_nI (n := 4) (by decide) (by decide)) dX11_readRouter_174 ?_
              refine W.eq (g2 := F0 m 175 ls [.int (q_told 4), .int 4, .ref (ra 2)]) rfl ?_
              refine lv_iconst (v := 1) hx hb dX11_readRouter_175 ic_1 ?_
              refine lv_iadd hx hb dX11_readRouter_176 ?_
              have b391 : iv 1 12 ((q_told 4) + 1) := iv_add b2 ivk_1 (by decide) (by decide) (by decide) (by decide)
              refine va_iast hx hb hK hP hD hS 0 1 rfl rfl (vp_in_nI (n := 4) (by decide) (by decide)) dX11_readRouter_177 (fun H locs hPa hDa hS => ?_)
              clear hP hD
              have hP : va_P (dC, dI) vwCl [(ra 2, .inl (kI, 8, .inl (upd q_told 4 ((q_told 4) + 1)))), (ra 3, .inl (kI, 24, .inl (upd q_kind (12 + (q_told 4)).toNatClampNeg r19))), (ra 4, .inl (kI, 24, .inl (upd q_salt (12 + (q_told 4)).toNatClampNeg r296))), (ra 5, .inl (kI, 24, .inl (upd q_pace (12 + (q_told 4)).toNatClampNeg r309))), (ra 6, .inl (kI, 24, .inl (upd q_mute (12 + (q_told 4)).toNatClampNeg 1))), (ra 7, .inl (kI, 24, .inl (upd q_late (12 + (q_told 4)).toNatClampNeg 0))), (ra 1, .inl (kS, 4, .inr (.inr (.inr (.inr q_kinds))))), (m0, .inr (11, oX11 ra y379)), (ra 13, .inl (kI, 700, .inl q_tape))] H := hPa
              have hD : va_D A [(ra 2, .inl (kI, 8, .inl (upd q_told 4 ((q_told 4) + 1)))), (ra 3, .inl (kI, 24, .inl (upd q_kind (12 + (q_told 4)).toNatClampNeg r19))), (ra 4, .inl (kI, 24, .inl (upd q_salt (12 + (q_told 4)).toNatClampNeg r296))), (ra 5, .inl (kI, 24, .inl (upd q_pace (12 + (q_told 4)).toNatClampNeg r309))), (ra 6, .inl (kI, 24, .inl (upd q_mute (12 + (q_told 4)).toNatClampNeg 1))), (ra 7, .inl (kI, 24, .inl (upd q_late (12 + (q_told 4)).toNatClampNeg 0))), (ra 1, .inl (kS, 4, .inr (.inr (.inr (.inr q_kinds))))), (m0, .inr (11, oX11 ra y379)), (ra 13, .inl (kI, 700, .inl q_tape))] := hDa
              clear hPa hDa
              have hPD9 := cl_s (wc := [(m0, .inr (11, oX11 ra y379)), (ra 2, .inl (kI, 8, .inl (upd q_told 4 ((q_told 4) + 1)))), (ra 3, .inl (kI, 24, .inl (upd q_kind (12 + (q_told 4)).toNatClampNeg r19))), (ra 4, .inl (kI, 24, .inl (upd q_salt (12 + (q_told 4)).toNatClampNeg r296))), (ra 5, .inl (kI, 24, .inl (upd q_pace (12 + (q_told 4)).toNatClampNeg r309))), (ra 6, .inl (kI, 24, .inl (upd q_mute (12 + (q_told 4)).toNatClampNeg 1))), (ra 7, .inl (kI, 24, .inl (upd q_late (12 + (q_told 4)).toNatClampNeg 0))), (ra 13, .inl (kI, 700, .inl q_tape)), (ra 1, .inl (kS, 4, .inr (.inr (.inr (.inr q_kinds)))))]) hP hD [7, 0, 1, 2, 3, 4, 5, 8, 6] rfl (by decide +kernel)
              have hP9 := hPD9.1
              have hD9 := hPD9.2
              exact W.vret hx hb hr (fun t ht hW => ⟨⟨(), rfl, trivial, y379, upd q_told 4 ((q_told 4) + 1), upd q_kind (12 + (q_told 4)).toNatClampNeg r19, upd q_salt (12 + (q_told 4)).toNatClampNeg r296, upd q_pace (12 + (q_told 4)).toNatClampNeg r309, upd q_mute (12 + (q_told 4)).toNatClampNeg 1, upd q_late (12 + (q_told 4)).toNatClampNeg 0, hq380, (fI_u hq_told (k := 4) ((iv_w b391 (by decide) (by decide)))), (fI_u hq_salt (k := (12 + (q_told 4)).toNatClampNeg) (w297.1)), (show (x0 2).toInt ≤ (y379 2).toInt from by omega), (show y379 3 = x0 3 from hq382.trans (hq314.trans (hq301.trans (hq287.trans (hq10))))), (show ∀ j : Nat, (j : Int) < (q_told 1).toInt → (q_from j).toInt < (q_to j).toInt from hLT), (show ∀ j : Nat, (j : Int) < (q_told 5).toInt → (q_from (20 + j)).toInt < (q_to (20 + j)).toInt from hLD), (show RRd tT nN y379 (rtrS tT nN sS (q_told 4)) from it_f (Q := RRd tT nN y379) c1 (hrr390)), fun _ => absurd (ok_next (ok_num (ok_next (ok_num (ok_next (rr_ok hrr321 c370)))))) (fun w => ok_fail ((kq_n hwk c21).symm ▸ w)), low_t (by decide), (show y379 1 = x0 1 from hq385.trans (hq316.trans (hq303.trans (hq289.trans (hq13))))), (show y379 10 = x0 10 from hq386.trans (hq317.trans (hq304.trans (hq290.trans (hq14))))), (show y379 21 = x0 21 from hq387.trans (hq318.trans (hq305.trans (hq291.trans (hq15))))), (show y379 25 = x0 25 from hq388.trans (hq319.trans (hq306.trans (hq292.trans (hq16))))), (show y379 23 = x0 23 from hq389.trans (hq320.trans (hq307.trans (hq293.trans (hq17))))), by rw [ht]; exact hP9, hD9⟩, hS.F ht⟩) hS.2.2 dX11_readRouter_178
          · have b392 : iv 1 1 (wS tT 9 (rtr4 tT nN sS)) := iv_neLo c368 b367 ivk_0 (by decide) (by decide)
            refine lv_iconst (v := 1) hx hb dX11_readRouter_135 ic_1 ?_
            refine lv_goto (tgt := 140) hx hb dX11_readRouter_136 rfl ?_
            refine va_iast hx hb hK hP hD hS 5 1 rfl rfl (iv_in b18 (by decide) (by decide)) dX11_readRouter_140 (fun H locs hPa hDa hS => ?_)
            clear hP hD
            have hP : va_P (dC, dI) vwCl [(ra 2, .inl (kI, 8, .inl q_told)), (ra 3, .inl (kI, 24, .inl (upd q_kind (12 + (q_told 4)).toNatClampNeg r19))), (ra 4, .inl (kI, 24, .inl (upd q_salt (12 + (q_told 4)).toNatClampNeg r296))), (ra 5, .inl (kI, 24, .inl (upd q_pace (12 + (q_told 4)).toNatClampNeg r309))), (ra 6, .inl (kI, 24, .inl (upd q_mute (12 + (q_told 4)).toNatClampNeg 1))), (ra 7, .inl (kI, 24, .inl (upd q_late (12 + (q_told 4)).toNatClampNeg 1))), (ra 1, .inl (kS, 4, .inr (.inr (.inr (.inr q_kinds))))), (m0, .inr (11, oX11 ra y311)), (ra 13, .inl (kI, 700, .inl q_tape))] H := hPa
            have hD : va_D A [(ra 2, .inl (kI, 8, .inl q_told)), (ra 3, .inl (kI, 24, .inl (upd q_kind (12 + (q_told 4)).toNatClampNeg r19))), (ra 4, .inl (kI, 24, .inl (upd q_salt (12 + (q_told 4)).toNatClampNeg r296))), (ra 5, .inl (kI, 24, .inl (upd q_pace (12 + (q_told 4)).toNatClampNeg r309))), (ra 6, .inl (kI, 24, .inl (upd q_mute (12 + (q_told 4)).toNatClampNeg 1))), (ra 7, .inl (kI, 24, .inl (upd q_late (12 + (q_told 4)).toNatClampNeg 1))), (ra 1, .inl (kS, 4, .inr (.inr (.inr (.inr q_kinds))))), (m0, .inr (11, oX11 ra y311)), (ra 13, .inl (kI, 700, .inl q_tape))] := hDa
            clear hPa hDa
            refine lv_aload_n hx hb dX11_readRouter_141 rfl (lv_at hl 2 rfl) ?_
            refine va_get (D := (dC, dI)) (ci := 11) (v := .int (y311 8)) (C := RX11) (T := TX11) (N := 61) hx hb hts hin11 hown hK hP 7 rfl rfl 22 (Nat.le_of_ble_eq_true rfl) hw_1 (fun _ h9 => h9) rfl dX11_readRouter_142 ?_
            refine lv_if_ne (tgt := 168) hx hb dX11_readRouter_145 rfl (fun c393 => ?_) (fun c393 => ?_)
            · have b394 : iv 1 5 (y311 8) := iv_neLo c393 (hq312 8 : iv 0 5 (y311 8)) ivk_0 (by decide) (by decide)
              have hrr395 : RRd tT nN y311 (manT tT nN (rtr4 tT nN sS)) := (mq_b hrr321 c393) ▸ hrr321
              refine lv_aload_n hx hb dX11_readRouter_168 rfl (lv_at hl 2 rfl) ?_
              refine va_get (D := (dC, dI)) (ci := 11) (v := .ref (ra 2)) (C := RX11) (T := TX11) (N := 61) hx hb hts hin11 hown hK hP 7 rfl rfl 3 (Nat.le_of_ble_eq_true rfl) hw_0 (fun _ h9 => h9) rfl dX11_readRouter_169 ?_
              refine lv_iconst (v := 4) hx hb dX11_readRouter_172 ic_4 ?_
              refine lv_dup2_11 hx hb dX11_readRouter_173 rfl rfl ?_
              refine va_iald hx hb hK hP 0 1 rfl rfl (vp_in_nI (n := 4) (by decide) (by decide)) dX11_readRouter_174 ?_
              refine W.eq (g2 := F0 m 175 ls [.int (q_told 4), .int 4, .ref (ra 2)]) rfl ?_
              refine lv_iconst (v := 1) hx hb dX11_readRouter_175 ic_1 ?_
              refine lv_iadd hx hb dX11_readRouter_176 ?_
              have b396 : iv 1 12 ((q_told 4) + 1) := iv_add b2 ivk_1 (by decide) (by decide) (by decide) (by decide)
              refine va_iast hx hb hK hP hD hS 0 1 rfl rfl (vp_in_nI (n := 4) (by decide) (by decide)) dX11_readRouter_177 (fun H locs hPa hDa hS => ?_)
              clear hP hD
              have hP : va_P (dC, dI) vwCl [(ra 2, .inl (kI, 8, .inl (upd q_told 4 ((q_told 4) + 1)))), (ra 3, .inl (kI, 24, .inl (upd q_kind (12 + (q_told 4)).toNatClampNeg r19))), (ra 4, .inl (kI, 24, .inl (upd q_salt (12 + (q_told 4)).toNatClampNeg r296))), (ra 5, .inl (kI, 24, .inl (upd q_pace (12 + (q_told 4)).toNatClampNeg r309))), (ra 6, .inl (kI, 24, .inl (upd q_mute (12 + (q_told 4)).toNatClampNeg 1))), (ra 7, .inl (kI, 24, .inl (upd q_late (12 + (q_told 4)).toNatClampNeg 1))), (ra 1, .inl (kS, 4, .inr (.inr (.inr (.inr q_kinds))))), (m0, .inr (11, oX11 ra y311)), (ra 13, .inl (kI, 700, .inl q_tape))] H := hPa
              have hD : va_D A [(ra 2, .inl (kI, 8, .inl (upd q_told 4 ((q_told 4) + 1)))), (ra 3, .inl (kI, 24, .inl (upd q_kind (12 + (q_told 4)).toNatClampNeg r19))), (ra 4, .inl (kI, 24, .inl (upd q_salt (12 + (q_told 4)).toNatClampNeg r296))), (ra 5, .inl (kI, 24, .inl (upd q_pace (12 + (q_told 4)).toNatClampNeg r309))), (ra 6, .inl (kI, 24, .inl (upd q_mute (12 + (q_told 4)).toNatClampNeg 1))), (ra 7, .inl (kI, 24, .inl (upd q_late (12 + (q_told 4)).toNatClampNeg 1))), (ra 1, .inl (kS, 4, .inr (.inr (.inr (.inr q_kinds))))), (m0, .inr (11, oX11 ra y311)), (ra 13, .inl (kI, 700, .inl q_tape))] := hDa
              clear hPa hDa
              have hPD9 := cl_s (wc := [(m0, .inr (11, oX11 ra y311)), (ra 2, .inl (kI, 8, .inl (upd q_told 4 ((q_told 4) + 1)))), (ra 3, .inl (kI, 24, .inl (upd q_kind (12 + (q_told 4)).toNatClampNeg r19))), (ra 4, .inl (kI, 24, .inl (upd q_salt (12 + (q_told 4)).toNatClampNeg r296))), (ra 5, .inl (kI, 24, .inl (upd q_pace (12 + (q_told 4)).toNatClampNeg r309))), (ra 6, .inl (kI, 24, .inl (upd q_mute (12 + (q_told 4)).toNatClampNeg 1))), (ra 7, .inl (kI, 24, .inl (upd q_late (12 + (q_told 4)).toNatClampNeg 1))), (ra 13, .inl (kI, 700, .inl q_tape)), (ra 1, .inl (kS, 4, .inr (.inr (.inr (.inr q_kinds)))))]) hP hD [7, 0, 1, 2, 3, 4, 5, 8, 6] rfl (by decide +kernel)
              have hP9 := hPD9.1
              have hD9 := hPD9.2
              exact W.vret hx hb hr (fun t ht hW => ⟨⟨(), rfl, trivial, y311, upd q_told 4 ((q_told 4) + 1), upd q_kind (12 + (q_told 4)).toNatClampNeg r19, upd q_salt (12 + (q_told 4)).toNatClampNeg r296, upd q_pace (12 + (q_told 4)).toNatClampNeg r309, upd q_mute (12 + (q_told 4)).toNatClampNeg 1, upd q_late (12 + (q_told 4)).toNatClampNeg 1, hq312, (fI_u hq_told (k := 4) ((iv_w b396 (by decide) (by decide)))), (fI_u hq_salt (k := (12 + (q_told 4)).toNatClampNeg) (w297.1)), (show (x0 2).toInt ≤ (y311 2).toInt from by omega), (show y311 3 = x0 3 from hq314.trans (hq301.trans (hq287.trans (hq10)))), (show ∀ j : Nat, (j : Int) < (q_told 1).toInt → (q_from j).toInt < (q_to j).toInt from hLT), (show ∀ j : Nat, (j : Int) < (q_told 5).toInt → (q_from (20 + j)).toInt < (q_to (20 + j)).toInt from hLD), (show RRd tT nN y311 (rtrS tT nN sS (q_told 4)) from it_f (Q := RRd tT nN y311) c1 (hrr395)), fun w => absurd w c393, low_t (by decide), (show y311 1 = x0 1 from hq316.trans (hq303.trans (hq289.trans (hq13)))), (show y311 10 = x0 10 from hq317.trans (hq304.trans (hq290.trans (hq14)))), (show y311 21 = x0 21 from hq318.trans (hq305.trans (hq291.trans (hq15)))), (show y311 25 = x0 25 from hq319.trans (hq306.trans (hq292.trans (hq16)))), (show y311 23 = x0 23 from hq320.trans (hq307.trans (hq293.trans (hq17)))), by rw [ht]; exact hP9, hD9⟩, hS.F ht⟩) hS.2.2 dX11_readRouter_178
            · have b397 : iv 0 0 (y311 8) := iv_eqL c393 ivk_0
              refine lv_aload_n hx hb dX11_readRouter_148 rfl (lv_at hl 2 rfl) ?_
              refine va_get (D := (dC, dI)) (ci := 11) (v := .ref (ra 6)) (C := RX11) (T := TX11) (N := 61) hx hb hts hin11 hown hK hP 7 rfl rfl 7 (Nat.le_of_ble_eq_true rfl) hw_6 (fun _ h9 => h9) rfl dX11_readRouter_149 ?_
              refine lv_iload_n hx hb dX11_readRouter_152 rfl (lv_at hl 1 rfl) ?_
              refine va_iald hx hb hK hP 4 1 rfl rfl (iv_in b18 (by decide) (by decide)) dX11_readRouter_153 ?_
              refine W.eq (g2 := F0 m 154 ls [.int 1]) (by rw [upd_eq]) ?_
              refine lv_aload_n hx hb dX11_readRouter_154 rfl (lv_at hl 2 rfl) ?_
              refine va_get (D := (dC, dI)) (ci := 11) (v := .ref (ra 7)) (C := RX11) (T := TX11) (N := 61) hx hb hts hin11 hown hK hP 7 rfl rfl 8 (Nat.le_of_ble_eq_true rfl) hw_7 (fun _ h9 => h9) rfl dX11_readRouter_155 ?_
              refine lv_iload_n hx hb dX11_readRouter_158 rfl (lv_at hl 1 rfl) ?_
              refine va_iald hx hb hK hP 5 1 rfl rfl (iv_in b18 (by decide) (by decide)) dX11_readRouter_159 ?_
              refine W.eq (g2 := F0 m 160 ls [.int 1, .int 1]) (by rw [upd_eq]) ?_
              refine lv_iadd hx hb dX11_readRouter_160 ?_
              refine lv_topi (fun z398 e399 => ?_)
              obtain rfl : z398 = (2 : Int32) := e399.trans (by decide)
              refine lv_if_le (tgt := 168) hx hb dX11_readRouter_161 rfl (fun c9 => absurd c9 (by decide)) (fun _ => ?_)
              refine lv_aload_n hx hb dX11_readRouter_164 rfl (lv_at hl 2 rfl) ?_
              obtain ⟨hPc, hDc, hFc, hJn⟩ := cl_a (wc := [(m0, .inr (11, oX11 ra y311)), (ra 13, .inl (kI, 700, .inl q_tape))]) (wr := [(ra 2, .inl (kI, 8, .inl q_told)), (ra 3, .inl (kI, 24, .inl (upd q_kind (12 + (q_told 4)).toNatClampNeg r19))), (ra 4, .inl (kI, 24, .inl (upd q_salt (12 + (q_told 4)).toNatClampNeg r296))), (ra 5, .inl (kI, 24, .inl (upd q_pace (12 + (q_told 4)).toNatClampNeg r309))), (ra 6, .inl (kI, 24, .inl (upd q_mute (12 + (q_told 4)).toNatClampNeg 1))), (ra 7, .inl (kI, 24, .inl (upd q_late (12 + (q_told 4)).toNatClampNeg 1))), (ra 1, .inl (kS, 4, .inr (.inr (.inr (.inr q_kinds)))))]) hP hD hS hA [7, 8] [0, 1, 2, 3, 4, 5, 6] rfl rfl (by decide +kernel)
              refine va_callv (va_runV (As := []) (rest := []) ⟨hx, hb, hml, hown, hts⟩ (s11_stepOn l dC dI kB kI kJ kZ kC kS H.size m0 ra y311 q_tape tT nN (nextT tT nN (rtr4 tT nN sS)) (hq312) (hq_tape) (hrr321.2) (stp_of hrr321) (hTQ)) (cwV 0 hts gX11_readRouter_X11_stepOn rfl rfl rfl (by decide +kernel) ⟨Nat.le_of_ble_eq_true rfl, Nat.le_of_ble_eq_true rfl⟩) ⟨fun a U g mk q => by obtain ⟨q0, q1, qP, qE, qD⟩ := q; exact ⟨q0, q1, qP, kE_call qE, qD⟩, va_recv hK hP (ci := 11) (q0 := 7) rfl rfl, fun U hU hW => ⟨rfl, by rw [hU], by rw [hU]; exact hPc, kE_warm hW hE, hDc.weaken (fun _ _ _ _ => trivial)⟩⟩ rfl rfl hl.1 rfl (lv_room (Nat.le_of_ble_eq_true rfl)) dX11_readRouter_165 ⟨Nat.le_of_ble_eq_true rfl, Nat.le_of_ble_eq_true rfl⟩) hS (fun q _ h => hFc q h) hFc (fun u t H locs ht hvm w401 hB hz1 hk1 hS => ?_)
              obtain ⟨y402, hq403, hq404, hq405, hq406, hq407, hq408, hq409, hq410, hq411, hq412, hP1, hD1⟩ := hB
              try dsimp only at w401
              obtain ⟨hPa, hDa⟩ := hJn (w1 := [(m0, .inr (11, oX11 ra y402)), (ra 13, .inl (kI, 700, .inl q_tape))]) hk1 ht hP1 hD1
              clear hP hD hPc hDc hFc hJn hP1 hD1 hk1
              have hP : va_P (dC, dI) vwCl [(ra 2, .inl (kI, 8, .inl q_told)), (ra 3, .inl (kI, 24, .inl (upd q_kind (12 + (q_told 4)).toNatClampNeg r19))), (ra 4, .inl (kI, 24, .inl (upd q_salt (12 + (q_told 4)).toNatClampNeg r296))), (ra 5, .inl (kI, 24, .inl (upd q_pace (12 + (q_told 4)).toNatClampNeg r309))), (ra 6, .inl (kI, 24, .inl (upd q_mute (12 + (q_told 4)).toNatClampNeg 1))), (ra 7, .inl (kI, 24, .inl (upd q_late (12 + (q_told 4)).toNatClampNeg 1))), (ra 1, .inl (kS, 4, .inr (.inr (.inr (.inr q_kinds))))), (m0, .inr (11, oX11 ra y402)), (ra 13, .inl (kI, 700, .inl q_tape))] H := hPa
              have hD : va_D A [(ra 2, .inl (kI, 8, .inl q_told)), (ra 3, .inl (kI, 24, .inl (upd q_kind (12 + (q_told 4)).toNatClampNeg r19))), (ra 4, .inl (kI, 24, .inl (upd q_salt (12 + (q_told 4)).toNatClampNeg r296))), (ra 5, .inl (kI, 24, .inl (upd q_pace (12 + (q_told 4)).toNatClampNeg r309))), (ra 6, .inl (kI, 24, .inl (upd q_mute (12 + (q_told 4)).toNatClampNeg 1))), (ra 7, .inl (kI, 24, .inl (upd q_late (12 + (q_told 4)).toNatClampNeg 1))), (ra 1, .inl (kS, 4, .inr (.inr (.inr (.inr q_kinds))))), (m0, .inr (11, oX11 ra y402)), (ra 13, .inl (kI, 700, .inl q_tape))] := hDa
              clear hPa hDa
              refine W.widen (k := 0) (n := 0) (Nat.le_of_ble_eq_true rfl) (Nat.le_of_ble_eq_true rfl) ?_
              have hrr413 : RRd tT nN y402 (manT tT nN (rtr4 tT nN sS)) := (mq_s hrr321 c393 (Or.inl c325)) ▸ hq407
              refine lv_aload_n hx hb dX11_readRouter_168 rfl (lv_at hl 2 rfl) ?_
              refine va_get (D := (dC, dI)) (ci := 11) (v := .ref (ra 2)) (C := RX11) (T := TX11) (N := 61) hx hb hts hin11 hown hK hP 7 rfl rfl 3 (Nat.le_of_ble_eq_true rfl) hw_0 (fun _ h9 => h9) rfl dX11_readRouter_169 ?_
              refine lv_iconst (v := 4) hx hb dX11_readRouter_172 ic_4 ?_
              refine lv_dup2_11 hx hb dX11_readRouter_173 rfl rfl ?_
              refine va_iald hx hb hK hP 0 1 rfl rfl (vp_in_nI (n := 4) (by decide) (by decide)) dX11_readRouter_174 ?_
              refine W.eq (g2 := F0 m 175 ls [.int (q_told 4), .int 4, .ref (ra 2)]) rfl ?_
              refine lv_iconst (v := 1) hx hb dX11_readRouter_175 ic_1 ?_
              refine lv_iadd hx hb dX11_readRouter_176 ?_
              have b414 : iv 1 12 ((q_told 4) + 1) := iv_add b2 ivk_1 (by decide) (by decide) (by decide) (by decide)
              refine va_iast hx hb hK hP hD hS 0 1 rfl rfl (vp_in_nI (n := 4) (by decide) (by decide)) dX11_readRouter_177 (fun H locs hPa hDa hS => ?_)
              clear hP hD
              have hP : va_P (dC, dI) vwCl [(ra 2, .inl (kI, 8, .inl (upd q_told 4 ((q_told 4) + 1)))), (ra 3, .inl (kI, 24, .inl (upd q_kind (12 + (q_told 4)).toNatClampNeg r19))), (ra 4, .inl (kI, 24, .inl (upd q_salt (12 + (q_told 4)).toNatClampNeg r296))), (ra 5, .inl (kI, 24, .inl (upd q_pace (12 + (q_told 4)).toNatClampNeg r309))), (ra 6, .inl (kI, 24, .inl (upd q_mute (12 + (q_told 4)).toNatClampNeg 1))), (ra 7, .inl (kI, 24, .inl (upd q_late (12 + (q_told 4)).toNatClampNeg 1))), (ra 1, .inl (kS, 4, .inr (.inr (.inr (.inr q_kinds))))), (m0, .inr (11, oX11 ra y402)), (ra 13, .inl (kI, 700, .inl q_tape))] H := hPa
              have hD : va_D A [(ra 2, .inl (kI, 8, .inl (upd q_told 4 ((q_told 4) + 1)))), (ra 3, .inl (kI, 24, .inl (upd q_kind (12 + (q_told 4)).toNatClampNeg r19))), (ra 4, .inl (kI, 24, .inl (upd q_salt (12 + (q_told 4)).toNatClampNeg r296))), (ra 5, .inl (kI, 24, .inl (upd q_pace (12 + (q_told 4)).toNatClampNeg r309))), (ra 6, .inl (kI, 24, .inl (upd q_mute (12 + (q_told 4)).toNatClampNeg 1))), (ra 7, .inl (kI, 24, .inl (upd q_late (12 + (q_told 4)).toNatClampNeg 1))), (ra 1, .inl (kS, 4, .inr (.inr (.inr (.inr q_kinds))))), (m0, .inr (11, oX11 ra y402)), (ra 13, .inl (kI, 700, .inl q_tape))] := hDa
              clear hPa hDa
              have hPD9 := cl_s (wc := [(m0, .inr (11, oX11 ra y402)), (ra 2, .inl (kI, 8, .inl (upd q_told 4 ((q_told 4) + 1)))), (ra 3, .inl (kI, 24, .inl (upd q_kind (12 + (q_told 4)).toNatClampNeg r19))), (ra 4, .inl (kI, 24, .inl (upd q_salt (12 + (q_told 4)).toNatClampNeg r296))), (ra 5, .inl (kI, 24, .inl (upd q_pace (12 + (q_told 4)).toNatClampNeg r309))), (ra 6, .inl (kI, 24, .inl (upd q_mute (12 + (q_told 4)).toNatClampNeg 1))), (ra 7, .inl (kI, 24, .inl (upd q_late (12 + (q_told 4)).toNatClampNeg 1))), (ra 13, .inl (kI, 700, .inl q_tape)), (ra 1, .inl (kS, 4, .inr (.inr (.inr (.inr q_kinds)))))]) hP hD [7, 0, 1, 2, 3, 4, 5, 8, 6] rfl (by decide +kernel)
              have hP9 := hPD9.1
              have hD9 := hPD9.2
              exact W.vret hx hb hr (fun t ht hW => ⟨⟨(), rfl, trivial, y402, upd q_told 4 ((q_told 4) + 1), upd q_kind (12 + (q_told 4)).toNatClampNeg r19, upd q_salt (12 + (q_told 4)).toNatClampNeg r296, upd q_pace (12 + (q_told 4)).toNatClampNeg r309, upd q_mute (12 + (q_told 4)).toNatClampNeg 1, upd q_late (12 + (q_told 4)).toNatClampNeg 1, hq403, (fI_u hq_told (k := 4) ((iv_w b414 (by decide) (by decide)))), (fI_u hq_salt (k := (12 + (q_told 4)).toNatClampNeg) (w297.1)), (show (x0 2).toInt ≤ (y402 2).toInt from by omega), (show y402 3 = x0 3 from hq405.trans (hq314.trans (hq301.trans (hq287.trans (hq10))))), (show ∀ j : Nat, (j : Int) < (q_told 1).toInt → (q_from j).toInt < (q_to j).toInt from hLT), (show ∀ j : Nat, (j : Int) < (q_told 5).toInt → (q_from (20 + j)).toInt < (q_to (20 + j)).toInt from hLD), (show RRd tT nN y402 (rtrS tT nN sS (q_told 4)) from it_f (Q := RRd tT nN y402) c1 (hrr413)), fun _ => absurd (ok_next (ok_num (ok_next (ok_num (ok_next (rr_ok hrr321 c393)))))) (fun w => ok_fail ((kq_n hwk c21).symm ▸ w)), low_t (by decide), (show y402 1 = x0 1 from hq408.trans (hq316.trans (hq303.trans (hq289.trans (hq13))))), (show y402 10 = x0 10 from hq409.trans (hq317.trans (hq304.trans (hq290.trans (hq14))))), (show y402 21 = x0 21 from hq410.trans (hq318.trans (hq305.trans (hq291.trans (hq15))))), (show y402 25 = x0 25 from hq411.trans (hq319.trans (hq306.trans (hq292.trans (hq16))))), (show y402 23 = x0 23 from hq412.trans (hq320.trans (hq307.trans (hq293.trans (hq17))))), by rw [ht]; exact hP9, hD9⟩, hS.F ht⟩) hS.2.2 dX11_readRouter_178
    · have b415 : iv 1 5 (x0 8) := iv_neLo c3 (hX 8 : iv 0 5 (x0 8)) ivk_0 (by decide) (by decide)
      have hP9 := hP
      have hD9 := hD
      exact W.vret hx hb hr (fun t ht hW => ⟨⟨(), rfl, trivial, x0, q_told, q_kind, q_salt, q_pace, q_mute, q_late, hX, hq_told, hq_salt, (show (x0 2).toInt ≤ (x0 2).toInt from by omega), (show x0 3 = x0 3 from rfl), (show ∀ j : Nat, (j : Int) < (q_told 1).toInt → (q_from j).toInt < (q_to j).toInt from hLT), (show ∀ j : Nat, (j : Int) < (q_told 5).toInt → (q_from (20 + j)).toInt < (q_to (20 + j)).toInt from hLD), (show RRd tT nN x0 (rtrS tT nN sS (q_told 4)) from (rt_in hRr c3) ▸ hRr), (show x0 8 = 0 → q_told = upd q_told 4 (q_told 4 + 1) ∧ q_kind = upd q_kind ((12 + (q_told 4)).toNatClampNeg) (kndS tT (rtr1 tT nN sS)) ∧ q_salt = upd q_salt ((12 + (q_told 4)).toNatClampNeg) (valS tT (rtr2 tT nN sS)) ∧ q_pace = upd q_pace ((12 + (q_told 4)).toNatClampNeg) (valS tT (rtr3 tT nN sS)) ∧ q_mute = upd q_mute ((12 + (q_told 4)).toNatClampNeg) (wS tT 8 (rtr4 tT nN sS)) ∧ q_late = upd q_late ((12 + (q_told 4)).toNatClampNeg) (wS tT 9 (rtr4 tT nN sS)) from fun w => absurd w c3), (show LowT q_told q_from q_to q_told q_from q_to from low_0), (show x0 1 = x0 1 from rfl), (show x0 10 = x0 10 from rfl), (show x0 21 = x0 21 from rfl), (show x0 25 = x0 25 from rfl), (show x0 23 = x0 23 from rfl), by rw [ht]; exact hP9, hD9⟩, hS.F ht⟩) hS.2.2 dX11_readRouter_23
  · have b416 : iv 12 12 (q_told 4) := iv_eqL c1 ivk_12
    refine lv_aload_n hx hb dX11_readRouter_11 rfl (lv_at hl 0 rfl) ?_
    refine lv_iconst (v := 2) hx hb dX11_readRouter_12 ic_2 ?_
    obtain ⟨hPc, hDc, hFc, hJn⟩ := cl_a (wc := [(m0, .inr (11, oX11 ra x0))]) (wr := [(ra 2, .inl (kI, 8, .inl q_told)), (ra 3, .inl (kI, 24, .inl q_kind)), (ra 4, .inl (kI, 24, .inl q_salt)), (ra 5, .inl (kI, 24, .inl q_pace)), (ra 6, .inl (kI, 24, .inl q_mute)), (ra 7, .inl (kI, 24, .inl q_late)), (ra 13, .inl (kI, 700, .inl q_tape)), (ra 1, .inl (kS, 4, .inr (.inr (.inr (.inr q_kinds)))))]) hP hD hS hA [0] [1, 2, 3, 4, 5, 6, 7, 8] rfl rfl (by decide +kernel)
    refine va_callv (va_runV (As := [.int 2]) (rest := []) ⟨hx, hb, hml, hown, hts⟩ (s11_wrong l dC dI kB kI kJ kZ kC kS s.heap.size m0 ra x0 2 tT nN sS (hX) ((iv_w ivk_2 (by decide) (by decide))) (hRr)) (cwV 1 hts gX11_readRouter_X11_wrong rfl rfl rfl (by decide +kernel) ⟨Nat.le_of_ble_eq_true rfl, Nat.le_of_ble_eq_true rfl⟩) ⟨fun a U g mk q => by obtain ⟨q0, q1, qP, qE, qD⟩ := q; exact ⟨q0, q1, qP, kE_call qE, qD⟩, va_recv hK hP (ci := 11) (q0 := 0) rfl rfl, fun U hU hW => ⟨rfl, by rw [hU], by rw [hU]; exact hPc, kE_warm hW hE, hDc.weaken (fun _ _ _ _ => trivial)⟩⟩ rfl rfl hl.1 rfl (lv_room (Nat.le_of_ble_eq_true rfl)) dX11_readRouter_13 ⟨Nat.le_of_ble_eq_true rfl, Nat.le_of_ble_eq_true rfl⟩) hS (fun q _ h => hFc q h) hFc (fun u t H locs ht hvm w418 hB hz1 hk1 hS => ?_)
    obtain ⟨y419, hq420, hq421, hq422, hq423, hq424, hq425, hq426, hq427, hq428, hq429, hP1, hD1⟩ := hB
    try dsimp only at w418
    obtain ⟨hPa, hDa⟩ := hJn (w1 := [(m0, .inr (11, oX11 ra y419))]) hk1 ht hP1 hD1
    clear hP hD hPc hDc hFc hJn hP1 hD1 hk1
    have hP : va_P (dC, dI) vwCl [(ra 2, .inl (kI, 8, .inl q_told)), (ra 3, .inl (kI, 24, .inl q_kind)), (ra 4, .inl (kI, 24, .inl q_salt)), (ra 5, .inl (kI, 24, .inl q_pace)), (ra 6, .inl (kI, 24, .inl q_mute)), (ra 7, .inl (kI, 24, .inl q_late)), (ra 13, .inl (kI, 700, .inl q_tape)), (ra 1, .inl (kS, 4, .inr (.inr (.inr (.inr q_kinds))))), (m0, .inr (11, oX11 ra y419))] H := hPa
    have hD : va_D A [(ra 2, .inl (kI, 8, .inl q_told)), (ra 3, .inl (kI, 24, .inl q_kind)), (ra 4, .inl (kI, 24, .inl q_salt)), (ra 5, .inl (kI, 24, .inl q_pace)), (ra 6, .inl (kI, 24, .inl q_mute)), (ra 7, .inl (kI, 24, .inl q_late)), (ra 13, .inl (kI, 700, .inl q_tape)), (ra 1, .inl (kS, 4, .inr (.inr (.inr (.inr q_kinds))))), (m0, .inr (11, oX11 ra y419))] := hDa
    clear hPa hDa
    refine W.widen (k := 0) (n := 0) (Nat.le_of_ble_eq_true rfl) (Nat.le_of_ble_eq_true rfl) ?_
    refine lv_aload_n hx hb dX11_readRouter_16 rfl (lv_at hl 0 rfl) ?_
    refine va_get (D := (dC, dI)) (ci := 11) (v := .int (y419 8)) (C := RX11) (T := TX11) (N := 61) hx hb hts hin11 hown hK hP 8 rfl rfl 22 (Nat.le_of_ble_eq_true rfl) hw_1 (fun _ h9 => h9) rfl dX11_readRouter_17 ?_
    refine lv_if_eq (tgt := 24) hx hb dX11_readRouter_20 rfl (fun c9 => absurd c9 (iv_ne hq421 ivk_0 (by decide))) (fun _ => ?_)
    have hPD9 := cl_s (wc := [(m0, .inr (11, oX11 ra y419)), (ra 2, .inl (kI, 8, .inl q_told)), (ra 3, .inl (kI, 24, .inl q_kind)), (ra 4, .inl (kI, 24, .inl q_salt)), (ra 5, .inl (kI, 24, .inl q_pace)), (ra 6, .inl (kI, 24, .inl q_mute)), (ra 7, .inl (kI, 24, .inl q_late)), (ra 13, .inl (kI, 700, .inl q_tape)), (ra 1, .inl (kS, 4, .inr (.inr (.inr (.inr q_kinds)))))]) hP hD [8, 0, 1, 2, 3, 4, 5, 6, 7] rfl (by decide +kernel)
    have hP9 := hPD9.1
    have hD9 := hPD9.2
    exact W.vret hx hb hr (fun t ht hW => ⟨⟨(), rfl, trivial, y419, q_told, q_kind, q_salt, q_pace, q_mute, q_late, hq420, hq_told, hq_salt, (show (x0 2).toInt ≤ (y419 2).toInt from by omega), (show y419 3 = x0 3 from hq423), (show ∀ j : Nat, (j : Int) < (q_told 1).toInt → (q_from j).toInt < (q_to j).toInt from hLT), (show ∀ j : Nat, (j : Int) < (q_told 5).toInt → (q_from (20 + j)).toInt < (q_to (20 + j)).toInt from hLD), (show RRd tT nN y419 (rtrS tT nN sS (q_told 4)) from it_t (Q := RRd tT nN y419) c1 (hq424)), (show y419 8 = 0 → q_told = upd q_told 4 (q_told 4 + 1) ∧ q_kind = upd q_kind ((12 + (q_told 4)).toNatClampNeg) (kndS tT (rtr1 tT nN sS)) ∧ q_salt = upd q_salt ((12 + (q_told 4)).toNatClampNeg) (valS tT (rtr2 tT nN sS)) ∧ q_pace = upd q_pace ((12 + (q_told 4)).toNatClampNeg) (valS tT (rtr3 tT nN sS)) ∧ q_mute = upd q_mute ((12 + (q_told 4)).toNatClampNeg) (wS tT 8 (rtr4 tT nN sS)) ∧ q_late = upd q_late ((12 + (q_told 4)).toNatClampNeg) (wS tT 9 (rtr4 tT nN sS)) from fun w => absurd w (rr_nf hq424)), (show LowT q_told q_from q_to q_told q_from q_to from low_0), (show y419 1 = x0 1 from hq425), (show y419 10 = x0 10 from hq426), (show y419 21 = x0 21 from hq427), (show y419 25 = x0 25 from hq428), (show y419 23 = x0 23 from hq429), by rw [ht]; exact hP9, hD9⟩, hS.F ht⟩) hS.2.2 dX11_readRouter_23
def rm_s11_readLink : Room := { frames := 3, cells := 0, slots := 0, locals := 64 }
set_option maxHeartbeats 4000000 in
set_option maxRecDepth 100000 in
theorem s11_readLink (l : Launch) (dC : Nat → ClassId) (dI : Nat → Nat → Nat) (kB kI kJ kZ kC kS : ClassId) (sz : Nat) (m0 : Nat) (ra : Nat → Nat) (x0 : Nat → Int32) (q_told : Nat → Int32) (q_from : Nat → Int32) (q_to : Nat → Int32) (q_tape : Nat → Int32) (tT : Nat → Int32) (nN : Int32) (sS : StT) (hX : fI lX11 hX11 x0) (hq_told : fI lTold hTold q_told) (hq_from : fI (fun _ => 0) (fun _ => 11) q_from) (hq_to : fI (fun _ => 0) (fun _ => 11) q_to) (hq_tape : fI (fun _ => 0) (fun _ => 255) q_tape) (hLT : ∀ j : Nat, (j : Int) < (q_told 1).toInt → (q_from j).toInt < (q_to j).toInt) (hLD : ∀ j : Nat, (j : Int) < (q_told 5).toInt → (q_from (20 + j)).toInt < (q_to (20 + j)).toInt) (hRr : RRd tT nN x0 sS) (hTQ : tT = q_tape) : Met l yX11_readLink wsX11_readLink rm_s11_readLink (va_Pc [.ref m0] (fun U => U.heap.size = sz ∧ va_P (dC, dI) vwCl [(m0, .inr (11, oX11 ra x0)), (ra 2, .inl (kI, 8, .inl q_told)), (ra 8, .inl (kI, 40, .inl q_from)), (ra 9, .inl (kI, 40, .inl q_to)), (ra 13, .inl (kI, 700, .inl q_tape))] U.heap ∧ kE dC dI kB kI kJ kZ kC kS U ∧ va_D (fun _ => True) [(m0, .inr (11, oX11 ra x0)), (ra 2, .inl (kI, 8, .inl q_told)), (ra 8, .inl (kI, 40, .inl q_from)), (ra 9, .inl (kI, 40, .inl q_to)), (ra 13, .inl (kI, 700, .inl q_tape))])) (va_Qv (fun (_ : Unit) => True) (fun _ t => ∃ (x0' : Nat → Int32) (q_told' : Nat → Int32) (q_from' : Nat → Int32) (q_to' : Nat → Int32), fI lX11 hX11 x0' ∧ fI lTold hTold q_told' ∧ fI (fun _ => 0) (fun _ => 11) q_from' ∧ fI (fun _ => 0) (fun _ => 11) q_to' ∧ ((x0 2).toInt ≤ (x0' 2).toInt) ∧ (x0' 3 = x0 3) ∧ (∀ j : Nat, (j : Int) < (q_told' 1).toInt → (q_from' j).toInt < (q_to' j).toInt) ∧ (∀ j : Nat, (j : Int) < (q_told' 5).toInt → (q_from' (20 + j)).toInt < (q_to' (20 + j)).toInt) ∧ (RRd tT nN x0' (lnkS tT nN sS (q_told 4) (q_told 5) (shT 20 q_from) (shT 20 q_to))) ∧ (x0' 8 = 0 → q_told' = upd q_told 5 (q_told 5 + 1) ∧ q_from' = upd q_from ((20 + (q_told 5)).toNatClampNeg) (lnkA tT nN sS) ∧ q_to' = upd q_to ((20 + (q_told 5)).toNatClampNeg) (lnkB tT nN sS (q_told 4) (q_told 5) (shT 20 q_from))) ∧ (LowT q_told q_from q_to q_told' q_from' q_to') ∧ (x0' 1 = x0 1) ∧ (x0' 10 = x0 10) ∧ (x0' 21 = x0 21) ∧ (x0' 25 = x0 25) ∧ (x0' 23 = x0 23) ∧ va_P (dC, dI) vwCl [(m0, .inr (11, oX11 ra x0')), (ra 2, .inl (kI, 8, .inl q_told')), (ra 8, .inl (kI, 40, .inl q_from')), (ra 9, .inl (kI, 40, .inl q_to')), (ra 13, .inl (kI, 700, .inl q_tape))] t.heap ∧ va_D (va_A [(m0, .inr (11, oX11 ra x0)), (ra 2, .inl (kI, 8, .inl q_told)), (ra 8, .inl (kI, 40, .inl q_from)), (ra 9, .inl (kI, 40, .inl q_to)), (ra 13, .inl (kI, 700, .inl q_tape))] sz) [(m0, .inr (11, oX11 ra x0')), (ra 2, .inl (kI, 8, .inl q_told')), (ra 8, .inl (kI, 40, .inl q_from')), (ra 9, .inl (kI, 40, .inl q_to')), (ra 13, .inl (kI, 700, .inl q_tape))]) (va_A [(m0, .inr (11, oX11 ra x0)), (ra 2, .inl (kI, 8, .inl q_told)), (ra 8, .inl (kI, 40, .inl q_from)), (ra 9, .inl (kI, 40, .inl q_to)), (ra 13, .inl (kI, 700, .inl q_tape))] sz)) 0 0 (va_A [(m0, .inr (11, oX11 ra x0)), (ra 2, .inl (kI, 8, .inl q_told)), (ra 8, .inl (kI, 40, .inl q_from)), (ra 9, .inl (kI, 40, .inl q_to)), (ra 13, .inl (kI, 700, .inl q_tape))] sz) := by
  refine Met.ofW (cc := cX11_readLink) (maxL := 3) (ret := none) (by decide) rfl ?_
  intro p e s m args0 below meth c s₁ B hml hv
  obtain ⟨hargs, hsz, hP, hE, hD0⟩ := hv
  have hx := B.exec
  have hb := B.bytes
  have hr := B.returns
  have hts := atoms_spec (ws := wsX11_readLink) B.pre
  have hown : s.vm.findClass RX11 = some m.cls := findClass_of_methodNamed B.named
  have hlocks := B.notSynchronized
  have hK := hE.1
  have hin11 : ∀ w ∈ wsX110, w ∈ wsX11_readLink := fun _ h9 => List.mem_cons_of_mem _ (List.mem_append_right _ h9)
  have hw_0 := hts (.fieldLink RX11 34 "PathProberModel" "told" "[I") (List.mem_of_getElem? (i := 1) rfl)
  have hw_1 := hts (.fieldLink RX11 184 "PathProberModel" "bad" "I") (List.mem_of_getElem? (i := 2) rfl)
  have hw_2 := hts (.fieldLink RX11 53 "PathProberModel" "from" "[I") (List.mem_of_getElem? (i := 3) rfl)
  have hw_3 := hts (.fieldLink RX11 56 "PathProberModel" "to" "[I") (List.mem_of_getElem? (i := 4) rfl)
  subst hsz
  have hD := hD0.self (sz := s.heap.size)
  generalize hAe : va_A [(m0, .inr (11, oX11 ra x0)), (ra 2, .inl (kI, 8, .inl q_told)), (ra 8, .inl (kI, 40, .inl q_from)), (ra 9, .inl (kI, 40, .inl q_to)), (ra 13, .inl (kI, 700, .inl q_tape))] s.heap.size = A at hD ⊢
  have hA : ∀ q : Nat, s.heap.size ≤ q → A q := fun q h => by rw [← hAe]; exact Or.inr h
  have hS : va_S A s.heap s.heap [] := va_S.rf
  have hP : va_P (dC, dI) vwCl [(m0, .inr (11, oX11 ra x0)), (ra 2, .inl (kI, 8, .inl q_told)), (ra 8, .inl (kI, 40, .inl q_from)), (ra 9, .inl (kI, 40, .inl q_to)), (ra 13, .inl (kI, 700, .inl q_tape))] s.heap := hP
  have hl := lv_entry ([.ref m0]) (n := 3) (Nat.le_of_ble_eq_true rfl)
  have hla : entryFrame m args0 3 = entryFrame m ([.ref m0] : List Value).toArray 3 := by rw [hargs]
  rw [hla, lg_entry_eq]
  generalize (lg_sl ([.ref m0]) ++ List.replicate (3 - (lg_sl ([.ref m0])).length) Slot.unset).toArray = ls at hl ⊢
  have hl : lv_has ls 3 [(0, .ref m0)] := hl
  refine lv_aload_n hx hb dX11_readLink_0 rfl (lv_at hl 0 rfl) ?_
  refine va_get (D := (dC, dI)) (ci := 11) (v := .ref (ra 2)) (C := RX11) (T := TX11) (N := 61) hx hb hts hin11 hown hK hP 0 rfl rfl 3 (Nat.le_of_ble_eq_true rfl) hw_0 (fun _ h9 => h9) rfl dX11_readLink_1 ?_
  refine lv_iconst (v := 5) hx hb dX11_readLink_4 ic_5 ?_
  refine va_iald hx hb hK hP 1 1 rfl rfl (vp_in_nI (n := 5) (by decide) (by decide)) dX11_readLink_5 ?_
  refine W.eq (g2 := F0 m 6 ls [.int (q_told 5)]) rfl ?_
  refine lv_bipush (v := 20) hx hb dX11_readLink_6 bp_20 ?_
  refine lv_icmp_ne (tgt := 16) hx hb dX11_readLink_8 rfl (fun c1 => ?_) (fun c1 => ?_)
  · have b2 : iv 0 19 (q_told 5) := iv_neHi c1 (hq_told 5 : iv 0 20 (q_told 5)) ivk_20 (by decide) (by decide)
    refine lv_aload_n hx hb dX11_readLink_16 rfl (lv_at hl 0 rfl) ?_
    refine va_get (D := (dC, dI)) (ci := 11) (v := .int (x0 8)) (C := RX11) (T := TX11) (N := 61) hx hb hts hin11 hown hK hP 0 rfl rfl 22 (Nat.le_of_ble_eq_true rfl) hw_1 (fun _ h9 => h9) rfl dX11_readLink_17 ?_
    refine lv_if_eq (tgt := 24) hx hb dX11_readLink_20 rfl (fun c3 => ?_) (fun c3 => ?_)
    · have b4 : iv 0 0 (x0 8) := iv_eqL c3 ivk_0
      refine lv_aload_n hx hb dX11_readLink_24 rfl (lv_at hl 0 rfl) ?_
      obtain ⟨hPc, hDc, hFc, hJn⟩ := cl_a (wc := [(m0, .inr (11, oX11 ra x0)), (ra 13, .inl (kI, 700, .inl q_tape))]) (wr := [(ra 2, .inl (kI, 8, .inl q_told)), (ra 8, .inl (kI, 40, .inl q_from)), (ra 9, .inl (kI, 40, .inl q_to))]) hP hD hS hA [0, 4] [1, 2, 3] rfl rfl (by decide +kernel)
      refine va_callv (va_runV (As := []) (rest := []) ⟨hx, hb, hml, hown, hts⟩ (s11_stepOn l dC dI kB kI kJ kZ kC kS s.heap.size m0 ra x0 q_tape tT nN (nextT tT nN sS) (hX) (hq_tape) (hRr.2) (stp_of hRr) (hTQ)) (cwV 0 hts gX11_readLink_X11_stepOn rfl rfl rfl (by decide +kernel) ⟨Nat.le_of_ble_eq_true rfl, Nat.le_of_ble_eq_true rfl⟩) ⟨fun a U g mk q => by obtain ⟨q0, q1, qP, qE, qD⟩ := q; exact ⟨q0, q1, qP, kE_call qE, qD⟩, va_recv hK hP (ci := 11) (q0 := 0) rfl rfl, fun U hU hW => ⟨rfl, by rw [hU], by rw [hU]; exact hPc, kE_warm hW hE, hDc.weaken (fun _ _ _ _ => trivial)⟩⟩ rfl rfl hl.1 rfl (lv_room (Nat.le_of_ble_eq_true rfl)) dX11_readLink_25 ⟨Nat.le_of_ble_eq_true rfl, Nat.le_of_ble_eq_true rfl⟩) hS (fun q _ h => hFc q h) hFc (fun u t H locs ht hvm w6 hB hz1 hk1 hS => ?_)
      obtain ⟨y7, hq8, hq9, hq10, hq11, hq12, hq13, hq14, hq15, hq16, hq17, hP1, hD1⟩ := hB
      try dsimp only at w6
      obtain ⟨hPa, hDa⟩ := hJn (w1 := [(m0, .inr (11, oX11 ra y7)), (ra 13, .inl (kI, 700, .inl q_tape))]) hk1 ht hP1 hD1
      clear hP hD hPc hDc hFc hJn hP1 hD1 hk1
      have hP : va_P (dC, dI) vwCl [(ra 2, .inl (kI, 8, .inl q_told)), (ra 8, .inl (kI, 40, .inl q_from)), (ra 9, .inl (kI, 40, .inl q_to)), (m0, .inr (11, oX11 ra y7)), (ra 13, .inl (kI, 700, .inl q_tape))] H := hPa
      have hD : va_D A [(ra 2, .inl (kI, 8, .inl q_told)), (ra 8, .inl (kI, 40, .inl q_from)), (ra 9, .inl (kI, 40, .inl q_to)), (m0, .inr (11, oX11 ra y7)), (ra 13, .inl (kI, 700, .inl q_tape))] := hDa
      clear hPa hDa
      refine W.widen (k := 0) (n := 0) (Nat.le_of_ble_eq_true rfl) (Nat.le_of_ble_eq_true rfl) ?_
      refine lv_aload_n hx hb dX11_readLink_28 rfl (lv_at hl 0 rfl) ?_
      obtain ⟨hPc, hDc, hFc, hJn⟩ := cl_a (wc := [(m0, .inr (11, oX11 ra y7)), (ra 2, .inl (kI, 8, .inl q_told))]) (wr := [(ra 8, .inl (kI, 40, .inl q_from)), (ra 9, .inl (kI, 40, .inl q_to)), (ra 13, .inl (kI, 700, .inl q_tape))]) hP hD hS hA [3, 0] [1, 2, 4] rfl rfl (by decide +kernel)
      refine va_calli (va_runV (As := []) (rest := []) ⟨hx, hb, hml, hown, hts⟩ (s11_routerNow l dC dI kB kI kJ kZ kC kS H.size m0 ra y7 q_told tT nN (nextT tT nN sS) (hq8) (hq_told) (hq12)) (cwV 0 hts gX11_readLink_X11_routerNow rfl rfl rfl (by decide +kernel) ⟨Nat.le_of_ble_eq_true rfl, Nat.le_of_ble_eq_true rfl⟩) ⟨fun a U g mk q => by obtain ⟨q0, q1, qP, qE, qD⟩ := q; exact ⟨q0, q1, qP, kE_call qE, qD⟩, va_recv hK hP (ci := 11) (q0 := 3) rfl rfl, fun U hU hW => ⟨rfl, by rw [hU], by rw [hU]; exact hPc, kE_warm hW hE, hDc.weaken (fun _ _ _ _ => trivial)⟩⟩ rfl rfl hl.1 rfl (lv_room (Nat.le_of_ble_eq_true rfl)) dX11_readLink_29 ⟨Nat.le_of_ble_eq_true rfl, Nat.le_of_ble_eq_true rfl⟩) hS (fun q _ h => hFc q h) hFc (fun r18 u t H locs ht hvm w19 hB hz1 hk1 hS => ?_)
      obtain ⟨y20, hq21, hq22, hq23, hq24, hq25, hq26, hq27, hq28, hq29, hP1, hD1⟩ := hB
      try dsimp only at w19
      obtain ⟨hPa, hDa⟩ := hJn (w1 := [(m0, .inr (11, oX11 ra y20)), (ra 2, .inl (kI, 8, .inl q_told))]) hk1 ht hP1 hD1
      clear hP hD hPc hDc hFc hJn hP1 hD1 hk1
      have hP : va_P (dC, dI) vwCl [(ra 8, .inl (kI, 40, .inl q_from)), (ra 9, .inl (kI, 40, .inl q_to)), (ra 13, .inl (kI, 700, .inl q_tape)), (m0, .inr (11, oX11 ra y20)), (ra 2, .inl (kI, 8, .inl q_told))] H := hPa
      have hD : va_D A [(ra 8, .inl (kI, 40, .inl q_from)), (ra 9, .inl (kI, 40, .inl q_to)), (ra 13, .inl (kI, 700, .inl q_tape)), (m0, .inr (11, oX11 ra y20)), (ra 2, .inl (kI, 8, .inl q_told))] := hDa
      clear hPa hDa
      refine W.widen (k := 0) (n := 0) (Nat.le_of_ble_eq_true rfl) (Nat.le_of_ble_eq_true rfl) ?_
      have hv9 := w19.2
      refine lv_istore_n (lv' := [(1, .int r18), (0, .ref m0)]) hx hb dX11_readLink_32 rfl hl (Nat.le_of_ble_eq_true rfl) rfl (fun ls hl => ?_)
      refine lv_aload_n hx hb dX11_readLink_33 rfl (lv_at hl 1 rfl) ?_
      refine va_get (D := (dC, dI)) (ci := 11) (v := .int (y20 8)) (C := RX11) (T := TX11) (N := 61) hx hb hts hin11 hown hK hP 3 rfl rfl 22 (Nat.le_of_ble_eq_true rfl) hw_1 (fun _ h9 => h9) rfl dX11_readLink_34 ?_
      refine lv_if_ne (tgt := 54) hx hb dX11_readLink_37 rfl (fun c30 => ?_) (fun c30 => ?_)
      · have b31 : iv 1 5 (y20 8) := iv_neLo c30 (hq21 8 : iv 0 5 (y20 8)) ivk_0 (by decide) (by decide)
        have hrr32 : RRd tT nN y20 (iteT (cntT (shT 20 q_from) (lnkA tT nN sS) (q_told 5).toNatClampNeg = 4) (failT 2 (lnk1 tT nN sS (q_told 4))) (lnk1 tT nN sS (q_told 4))) := ite_r hq24 c30 ▸ hq24
        refine lv_aload_n hx hb dX11_readLink_54 rfl (lv_at hl 1 rfl) ?_
        refine va_get (D := (dC, dI)) (ci := 11) (v := .int (y20 8)) (C := RX11) (T := TX11) (N := 61) hx hb hts hin11 hown hK hP 3 rfl rfl 22 (Nat.le_of_ble_eq_true rfl) hw_1 (fun _ h9 => h9) rfl dX11_readLink_55 ?_
        refine lv_if_ne (tgt := 65) hx hb dX11_readLink_58 rfl (fun _ => ?_) (fun c9 => absurd c9 (c30))
        have hrr33 : RRd tT nN y20 (lnk2 tT nN sS (q_told 4) (q_told 5) (shT 20 q_from)) := rr_stepN hrr32 c30
        refine lv_aload_n hx hb dX11_readLink_65 rfl (lv_at hl 1 rfl) ?_
        obtain ⟨hPc, hDc, hFc, hJn⟩ := cl_a (wc := [(m0, .inr (11, oX11 ra y20)), (ra 2, .inl (kI, 8, .inl q_told))]) (wr := [(ra 8, .inl (kI, 40, .inl q_from)), (ra 9, .inl (kI, 40, .inl q_to)), (ra 13, .inl (kI, 700, .inl q_tape))]) hP hD hS hA [3, 4] [0, 1, 2] rfl rfl (by decide +kernel)
        refine va_calli (va_runV (As := []) (rest := []) ⟨hx, hb, hml, hown, hts⟩ (s11_routerNow l dC dI kB kI kJ kZ kC kS H.size m0 ra y20 q_told tT nN (lnk2 tT nN sS (q_told 4) (q_told 5) (shT 20 q_from)) (hq21) (hq_told) (hrr33)) (cwV 0 hts gX11_readLink_X11_routerNow rfl rfl rfl (by decide +kernel) ⟨Nat.le_of_ble_eq_true rfl, Nat.le_of_ble_eq_true rfl⟩) ⟨fun a U g mk q => by obtain ⟨q0, q1, qP, qE, qD⟩ := q; exact ⟨q0, q1, qP, kE_call qE, qD⟩, va_recv hK hP (ci := 11) (q0 := 3) rfl rfl, fun U hU hW => ⟨rfl, by rw [hU], by rw [hU]; exact hPc, kE_warm hW hE, hDc.weaken (fun _ _ _ _ => trivial)⟩⟩ rfl rfl hl.1 rfl (lv_room (Nat.le_of_ble_eq_true rfl)) dX11_readLink_66 ⟨Nat.le_of_ble_eq_true rfl, Nat.le_of_ble_eq_true rfl⟩) hS (fun q _ h => hFc q h) hFc (fun r34 u t H locs ht hvm w35 hB hz1 hk1 hS => ?_)
        obtain ⟨y36, hq37, hq38, hq39, hq40, hq41, hq42, hq43, hq44, hq45, hP1, hD1⟩ := hB
        try dsimp only at w35
        obtain ⟨hPa, hDa⟩ := hJn (w1 := [(m0, .inr (11, oX11 ra y36)), (ra 2, .inl (kI, 8, .inl q_told))]) hk1 ht hP1 hD1
        clear hP hD hPc hDc hFc hJn hP1 hD1 hk1
        have hP : va_P (dC, dI) vwCl [(ra 8, .inl (kI, 40, .inl q_from)), (ra 9, .inl (kI, 40, .inl q_to)), (ra 13, .inl (kI, 700, .inl q_tape)), (m0, .inr (11, oX11 ra y36)), (ra 2, .inl (kI, 8, .inl q_told))] H := hPa
        have hD : va_D A [(ra 8, .inl (kI, 40, .inl q_from)), (ra 9, .inl (kI, 40, .inl q_to)), (ra 13, .inl (kI, 700, .inl q_tape)), (m0, .inr (11, oX11 ra y36)), (ra 2, .inl (kI, 8, .inl q_told))] := hDa
        clear hPa hDa
        refine W.widen (k := 0) (n := 0) (Nat.le_of_ble_eq_true rfl) (Nat.le_of_ble_eq_true rfl) ?_
        have hv8 := w35.2
        refine lv_istore_n (lv' := [(2, .int r34), (1, .int r18), (0, .ref m0)]) hx hb dX11_readLink_69 rfl hl (Nat.le_of_ble_eq_true rfl) rfl (fun ls hl => ?_)
        refine lv_aload_n hx hb dX11_readLink_70 rfl (lv_at hl 2 rfl) ?_
        refine va_get (D := (dC, dI)) (ci := 11) (v := .int (y36 8)) (C := RX11) (T := TX11) (N := 61) hx hb hts hin11 hown hK hP 3 rfl rfl 22 (Nat.le_of_ble_eq_true rfl) hw_1 (fun _ h9 => h9) rfl dX11_readLink_71 ?_
        refine lv_if_ne (tgt := 96) hx hb dX11_readLink_74 rfl (fun c46 => ?_) (fun c46 => ?_)
        · have b47 : iv 1 5 (y36 8) := iv_neLo c46 (hq37 8 : iv 0 5 (y36 8)) ivk_0 (by decide) (by decide)
          have hrr48 : RRd tT nN y36 (iteT (lnkB tT nN sS (q_told 4) (q_told 5) (shT 20 q_from) ≤ lnkA tT nN sS ∨ hasT (shT 20 q_from) (shT 20 q_to) (q_told 5) (lnkA tT nN sS) (lnkB tT nN sS (q_told 4) (q_told 5) (shT 20 q_from))) (failT 5 (lnk3 tT nN sS (q_told 4) (q_told 5) (shT 20 q_from))) (lnk3 tT nN sS (q_told 4) (q_told 5) (shT 20 q_from))) := ite_r hq40 c46 ▸ hq40
          refine lv_aload_n hx hb dX11_readLink_96 rfl (lv_at hl 2 rfl) ?_
          refine va_get (D := (dC, dI)) (ci := 11) (v := .int (y36 8)) (C := RX11) (T := TX11) (N := 61) hx hb hts hin11 hown hK hP 3 rfl rfl 22 (Nat.le_of_ble_eq_true rfl) hw_1 (fun _ h9 => h9) rfl dX11_readLink_97 ?_
          refine lv_if_eq (tgt := 104) hx hb dX11_readLink_100 rfl (fun c9 => absurd c9 (c46)) (fun _ => ?_)
          have hPD9 := cl_s (wc := [(m0, .inr (11, oX11 ra y36)), (ra 2, .inl (kI, 8, .inl q_told)), (ra 8, .inl (kI, 40, .inl q_from)), (ra 9, .inl (kI, 40, .inl q_to)), (ra 13, .inl (kI, 700, .inl q_tape))]) hP hD [3, 4, 0, 1, 2] rfl (by decide +kernel)
          have hP9 := hPD9.1
          have hD9 := hPD9.2
          exact W.vret hx hb hr (fun t ht hW => ⟨⟨(), rfl, trivial, y36, q_told, q_from, q_to, hq37, hq_told, hq_from, hq_to, (show (x0 2).toInt ≤ (y36 2).toInt from by omega), (show y36 3 = x0 3 from hq39.trans (hq23.trans (hq10))), (show ∀ j : Nat, (j : Int) < (q_told 1).toInt → (q_from j).toInt < (q_to j).toInt from hLT), (show ∀ j : Nat, (j : Int) < (q_told 5).toInt → (q_from (20 + j)).toInt < (q_to (20 + j)).toInt from hLD), (show RRd tT nN y36 (lnkS tT nN sS (q_told 4) (q_told 5) (shT 20 q_from) (shT 20 q_to)) from it_f (Q := RRd tT nN y36) c1 ((rr_stepN hrr48 c46))), (show y36 8 = 0 → q_told = upd q_told 5 (q_told 5 + 1) ∧ q_from = upd q_from ((20 + (q_told 5)).toNatClampNeg) (lnkA tT nN sS) ∧ q_to = upd q_to ((20 + (q_told 5)).toNatClampNeg) (lnkB tT nN sS (q_told 4) (q_told 5) (shT 20 q_from)) from fun w => absurd w c46), (show LowT q_told q_from q_to q_told q_from q_to from low_0), (show y36 1 = x0 1 from hq41.trans (hq25.trans (hq13))), (show y36 10 = x0 10 from hq42.trans (hq26.trans (hq14))), (show y36 21 = x0 21 from hq43.trans (hq27.trans (hq15))), (show y36 25 = x0 25 from hq44.trans (hq28.trans (hq16))), (show y36 23 = x0 23 from hq45.trans (hq29.trans (hq17))), by rw [ht]; exact hP9, hD9⟩, hS.F ht⟩) hS.2.2 dX11_readLink_103
        · have b49 : iv 0 0 (y36 8) := iv_eqL c46 ivk_0
          refine lv_iload_n hx hb dX11_readLink_77 rfl (lv_at hl 0 rfl) ?_
          refine lv_iload_n hx hb dX11_readLink_78 rfl (lv_at hl 1 rfl) ?_
          refine lv_icmp_le (tgt := 91) hx hb dX11_readLink_79 rfl (fun c50 => ?_) (fun c50 => ?_)
          · refine lv_aload_n hx hb dX11_readLink_91 rfl (lv_at hl 2 rfl) ?_
            refine lv_iconst (v := 5) hx hb dX11_readLink_92 ic_5 ?_
            obtain ⟨hPc, hDc, hFc, hJn⟩ := cl_a (wc := [(m0, .inr (11, oX11 ra y36))]) (wr := [(ra 8, .inl (kI, 40, .inl q_from)), (ra 9, .inl (kI, 40, .inl q_to)), (ra 13, .inl (kI, 700, .inl q_tape)), (ra 2, .inl (kI, 8, .inl q_told))]) hP hD hS hA [3] [0, 1, 2, 4] rfl rfl (by decide +kernel)
            refine va_callv (va_runV (As := [.int 5]) (rest := []) ⟨hx, hb, hml, hown, hts⟩ (s11_wrong l dC dI kB kI kJ kZ kC kS H.size m0 ra y36 5 tT nN (rouT tT (q_told 4) (lnk2 tT nN sS (q_told 4) (q_told 5) (shT 20 q_from))) (hq37) ((iv_w ivk_5 (by decide) (by decide))) (hq40)) (cwV 1 hts gX11_readLink_X11_wrong rfl rfl rfl (by decide +kernel) ⟨Nat.le_of_ble_eq_true rfl, Nat.le_of_ble_eq_true rfl⟩) ⟨fun a U g mk q => by obtain ⟨q0, q1, qP, qE, qD⟩ := q; exact ⟨q0, q1, qP, kE_call qE, qD⟩, va_recv hK hP (ci := 11) (q0 := 3) rfl rfl, fun U hU hW => ⟨rfl, by rw [hU], by rw [hU]; exact hPc, kE_warm hW hE, hDc.weaken (fun _ _ _ _ => trivial)⟩⟩ rfl rfl hl.1 rfl (lv_room (Nat.le_of_ble_eq_true rfl)) dX11_readLink_93 ⟨Nat.le_of_ble_eq_true rfl, Nat.le_of_ble_eq_true rfl⟩) hS (fun q _ h => hFc q h) hFc (fun u t H locs ht hvm w52 hB hz1 hk1 hS => ?_)
            obtain ⟨y53, hq54, hq55, hq56, hq57, hq58, hq59, hq60, hq61, hq62, hq63, hP1, hD1⟩ := hB
            try dsimp only at w52
            obtain ⟨hPa, hDa⟩ := hJn (w1 := [(m0, .inr (11, oX11 ra y53))]) hk1 ht hP1 hD1
            clear hP hD hPc hDc hFc hJn hP1 hD1 hk1
            have hP : va_P (dC, dI) vwCl [(ra 8, .inl (kI, 40, .inl q_from)), (ra 9, .inl (kI, 40, .inl q_to)), (ra 13, .inl (kI, 700, .inl q_tape)), (ra 2, .inl (kI, 8, .inl q_told)), (m0, .inr (11, oX11 ra y53))] H := hPa
            have hD : va_D A [(ra 8, .inl (kI, 40, .inl q_from)), (ra 9, .inl (kI, 40, .inl q_to)), (ra 13, .inl (kI, 700, .inl q_tape)), (ra 2, .inl (kI, 8, .inl q_told)), (m0, .inr (11, oX11 ra y53))] := hDa
            clear hPa hDa
            refine W.widen (k := 0) (n := 0) (Nat.le_of_ble_eq_true rfl) (Nat.le_of_ble_eq_true rfl) ?_
            have hok9 := rr_ok hq40 c46
            have hb9 := hv8 hok9
            have ha9 := hv9 (ok_ite (ok_next (ok_num (ok_rou hok9)))).1
            have hrr64 : RRd tT nN y53 (iteT (lnkB tT nN sS (q_told 4) (q_told 5) (shT 20 q_from) ≤ lnkA tT nN sS ∨ hasT (shT 20 q_from) (shT 20 q_to) (q_told 5) (lnkA tT nN sS) (lnkB tT nN sS (q_told 4) (q_told 5) (shT 20 q_from))) (failT 5 (lnk3 tT nN sS (q_told 4) (q_told 5) (shT 20 q_from))) (lnk3 tT nN sS (q_told 4) (q_told 5) (shT 20 q_from))) := it_t (Q := RRd tT nN y53) (Or.inl (by have q := c50; rw [ha9, hb9] at q; exact q)) (hq58)
            refine lv_aload_n hx hb dX11_readLink_96 rfl (lv_at hl 2 rfl) ?_
            refine va_get (D := (dC, dI)) (ci := 11) (v := .int (y53 8)) (C := RX11) (T := TX11) (N := 61) hx hb hts hin11 hown hK hP 4 rfl rfl 22 (Nat.le_of_ble_eq_true rfl) hw_1 (fun _ h9 => h9) rfl dX11_readLink_97 ?_
            refine lv_if_eq (tgt := 104) hx hb dX11_readLink_100 rfl (fun c9 => absurd c9 (iv_ne hq55 ivk_0 (by decide))) (fun _ => ?_)
            have hPD9 := cl_s (wc := [(m0, .inr (11, oX11 ra y53)), (ra 2, .inl (kI, 8, .inl q_told)), (ra 8, .inl (kI, 40, .inl q_from)), (ra 9, .inl (kI, 40, .inl q_to)), (ra 13, .inl (kI, 700, .inl q_tape))]) hP hD [4, 3, 0, 1, 2] rfl (by decide +kernel)
            have hP9 := hPD9.1
            have hD9 := hPD9.2
            exact W.vret hx hb hr (fun t ht hW => ⟨⟨(), rfl, trivial, y53, q_told, q_from, q_to, hq54, hq_told, hq_from, hq_to, (show (x0 2).toInt ≤ (y53 2).toInt from by omega), (show y53 3 = x0 3 from hq57.trans (hq39.trans (hq23.trans (hq10)))), (show ∀ j : Nat, (j : Int) < (q_told 1).toInt → (q_from j).toInt < (q_to j).toInt from hLT), (show ∀ j : Nat, (j : Int) < (q_told 5).toInt → (q_from (20 + j)).toInt < (q_to (20 + j)).toInt from hLD), (show RRd tT nN y53 (lnkS tT nN sS (q_told 4) (q_told 5) (shT 20 q_from) (shT 20 q_to)) from it_f (Q := RRd tT nN y53) c1 ((rr_stepN hrr64 (iv_ne hq55 ivk_0 (by decide))))), (show y53 8 = 0 → q_told = upd q_told 5 (q_told 5 + 1) ∧ q_from = upd q_from ((20 + (q_told 5)).toNatClampNeg) (lnkA tT nN sS) ∧ q_to = upd q_to ((20 + (q_told 5)).toNatClampNeg) (lnkB tT nN sS (q_told 4) (q_told 5) (shT 20 q_from)) from fun w => absurd w (iv_ne hq55 ivk_0 (by decide))), (show LowT q_told q_from q_to q_told q_from q_to from low_0), (show y53 1 = x0 1 from hq59.trans (hq41.trans (hq25.trans (hq13)))), (show y53 10 = x0 10 from hq60.trans (hq42.trans (hq26.trans (hq14)))), (show y53 21 = x0 21 from hq61.trans (hq43.trans (hq27.trans (hq15)))), (show y53 25 = x0 25 from hq62.trans (hq44.trans (hq28.trans (hq16)))), (show y53 23 = x0 23 from hq63.trans (hq45.trans (hq29.trans (hq17)))), by rw [ht]; exact hP9, hD9⟩, hS.F ht⟩) hS.2.2 dX11_readLink_103
          · have b65 : iv 0 10 r18 := iv_ltL (Int32.not_le.mp c50) w19.1 w35.1 (by decide) (by decide)
            have b66 : iv 1 11 r34 := iv_ltR (Int32.not_le.mp c50) w19.1 w35.1 (by decide) (by decide)
            refine lv_aload_n hx hb dX11_readLink_82 rfl (lv_at hl 2 rfl) ?_
            refine lv_iload_n hx hb dX11_readLink_83 rfl (lv_at hl 1 rfl) ?_
            refine lv_iload_n hx hb dX11_readLink_84 rfl (lv_at hl 0 rfl) ?_
            obtain ⟨hPc, hDc, hFc, hJn⟩ := cl_a (wc := [(m0, .inr (11, oX11 ra y36)), (ra 2, .inl (kI, 8, .inl q_told)), (ra 8, .inl (kI, 40, .inl q_from)), (ra 9, .inl (kI, 40, .inl q_to))]) (wr := [(ra 13, .inl (kI, 700, .inl q_tape))]) hP hD hS hA [3, 4, 0, 1] [2] rfl rfl (by decide +kernel)
            refine va_calli (va_runV (As := [.int r18, .int r34]) (rest := []) ⟨hx, hb, hml, hown, hts⟩ (s11_hasLink l dC dI kB kI kJ kZ kC kS H.size m0 ra y36 q_told q_from q_to r18 r34 (hq37) (hq_told) (hq_from) (hq_to)) (cwV 2 hts gX11_readLink_X11_hasLink rfl rfl rfl (by decide +kernel) ⟨Nat.le_of_ble_eq_true rfl, Nat.le_of_ble_eq_true rfl⟩) ⟨fun a U g mk q => by obtain ⟨q0, q1, qP, qE, qD⟩ := q; exact ⟨q0, q1, qP, kE_call qE, qD⟩, va_recv hK hP (ci := 11) (q0 := 3) rfl rfl, fun U hU hW => ⟨rfl, by rw [hU], by rw [hU]; exact hPc, kE_warm hW hE, hDc.weaken (fun _ _ _ _ => trivial)⟩⟩ rfl rfl hl.1 rfl (lv_room (Nat.le_of_ble_eq_true rfl)) dX11_readLink_85 ⟨Nat.le_of_ble_eq_true rfl, Nat.le_of_ble_eq_true rfl⟩) hS (fun q _ h => hFc q h) hFc (fun r67 u t H locs ht hvm w68 hB hz1 hk1 hS => ?_)
            obtain ⟨hP1, hD1⟩ := hB
            try dsimp only at w68
            obtain ⟨hPa, hDa⟩ := hJn (w1 := [(m0, .inr (11, oX11 ra y36)), (ra 2, .inl (kI, 8, .inl q_told)), (ra 8, .inl (kI, 40, .inl q_from)), (ra 9, .inl (kI, 40, .inl q_to))]) hk1 ht hP1 hD1
            clear hP hD hPc hDc hFc hJn hP1 hD1 hk1
            have hP : va_P (dC, dI) vwCl [(ra 13, .inl (kI, 700, .inl q_tape)), (m0, .inr (11, oX11 ra y36)), (ra 2, .inl (kI, 8, .inl q_told)), (ra 8, .inl (kI, 40, .inl q_from)), (ra 9, .inl (kI, 40, .inl q_to))] H := hPa
            have hD : va_D A [(ra 13, .inl (kI, 700, .inl q_tape)), (m0, .inr (11, oX11 ra y36)), (ra 2, .inl (kI, 8, .inl q_told)), (ra 8, .inl (kI, 40, .inl q_from)), (ra 9, .inl (kI, 40, .inl q_to))] := hDa
            clear hPa hDa
            refine W.widen (k := 0) (n := 0) (Nat.le_of_ble_eq_true rfl) (Nat.le_of_ble_eq_true rfl) ?_
            have hh9 := w68.2
            refine lv_if_eq (tgt := 96) hx hb dX11_readLink_88 rfl (fun c69 => ?_) (fun c69 => ?_)
            · have b70 : iv 0 0 r67 := iv_eqL c69 ivk_0
              have hok9 := rr_ok hq40 c46
              have hb9 := hv8 hok9
              have ha9 := hv9 (ok_ite (ok_next (ok_num (ok_rou hok9)))).1
              have hrr71 : RRd tT nN y36 (iteT (lnkB tT nN sS (q_told 4) (q_told 5) (shT 20 q_from) ≤ lnkA tT nN sS ∨ hasT (shT 20 q_from) (shT 20 q_to) (q_told 5) (lnkA tT nN sS) (lnkB tT nN sS (q_told 4) (q_told 5) (shT 20 q_from))) (failT 5 (lnk3 tT nN sS (q_told 4) (q_told 5) (shT 20 q_from))) (lnk3 tT nN sS (q_told 4) (q_told 5) (shT 20 q_from))) := it_f (Q := RRd tT nN y36) (by have q := (hh9.resolve_right (fun w => w.1 c69)).2; have q2 := Int32.not_le.mpr (Int32.not_le.mp c50); rw [ha9, hb9] at q q2; exact fun w => w.elim q2 q) (hq40)
              refine lv_aload_n hx hb dX11_readLink_96 rfl (lv_at hl 2 rfl) ?_
              refine va_get (D := (dC, dI)) (ci := 11) (v := .int (y36 8)) (C := RX11) (T := TX11) (N := 61) hx hb hts hin11 hown hK hP 1 rfl rfl 22 (Nat.le_of_ble_eq_true rfl) hw_1 (fun _ h9 => h9) rfl dX11_readLink_97 ?_
              refine lv_if_eq (tgt := 104) hx hb dX11_readLink_100 rfl (fun _ => ?_) (fun c9 => absurd (c46) c9)
              refine lv_aload_n hx hb dX11_readLink_104 rfl (lv_at hl 2 rfl) ?_
              obtain ⟨hPc, hDc, hFc, hJn⟩ := cl_a (wc := [(m0, .inr (11, oX11 ra y36)), (ra 13, .inl (kI, 700, .inl q_tape))]) (wr := [(ra 2, .inl (kI, 8, .inl q_told)), (ra 8, .inl (kI, 40, .inl q_from)), (ra 9, .inl (kI, 40, .inl q_to))]) hP hD hS hA [1, 0] [2, 3, 4] rfl rfl (by decide +kernel)
              refine va_callv (va_runV (As := []) (rest := []) ⟨hx, hb, hml, hown, hts⟩ (s11_stepOn l dC dI kB kI kJ kZ kC kS H.size m0 ra y36 q_tape tT nN (nextT tT nN (iteT (lnkB tT nN sS (q_told 4) (q_told 5) (shT 20 q_from) ≤ lnkA tT nN sS ∨ hasT (shT 20 q_from) (shT 20 q_to) (q_told 5) (lnkA tT nN sS) (lnkB tT nN sS (q_told 4) (q_told 5) (shT 20 q_from))) (failT 5 (lnk3 tT nN sS (q_told 4) (q_told 5) (shT 20 q_from))) (lnk3 tT nN sS (q_told 4) (q_told 5) (shT 20 q_from)))) (hq37) (hq_tape) (hrr71.2) (stp_of hrr71) (hTQ)) (cwV 0 hts gX11_readLink_X11_stepOn rfl rfl rfl (by decide +kernel) ⟨Nat.le_of_ble_eq_true rfl, Nat.le_of_ble_eq_true rfl⟩) ⟨fun a U g mk q => by obtain ⟨q0, q1, qP, qE, qD⟩ := q; exact ⟨q0, q1, qP, kE_call qE, qD⟩, va_recv hK hP (ci := 11) (q0 := 1) rfl rfl, fun U hU hW => ⟨rfl, by rw [hU], by rw [hU]; exact hPc, kE_warm hW hE, hDc.weaken (fun _ _ _ _ => trivial)⟩⟩ rfl rfl hl.1 rfl (lv_room (Nat.le_of_ble_eq_true rfl)) dX11_readLink_105 ⟨Nat.le_of_ble_eq_true rfl, Nat.le_of_ble_eq_true rfl⟩) hS (fun q _ h => hFc q h) hFc (fun u t H locs ht hvm w73 hB hz1 hk1 hS => ?_)
              obtain ⟨y74, hq75, hq76, hq77, hq78, hq79, hq80, hq81, hq82, hq83, hq84, hP1, hD1⟩ := hB
              try dsimp only at w73
              obtain ⟨hPa, hDa⟩ := hJn (w1 := [(m0, .inr (11, oX11 ra y74)), (ra 13, .inl (kI, 700, .inl q_tape))]) hk1 ht hP1 hD1
              clear hP hD hPc hDc hFc hJn hP1 hD1 hk1
              have hP : va_P (dC, dI) vwCl [(ra 2, .inl (kI, 8, .inl q_told)), (ra 8, .inl (kI, 40, .inl q_from)), (ra 9, .inl (kI, 40, .inl q_to)), (m0, .inr (11, oX11 ra y74)), (ra 13, .inl (kI, 700, .inl q_tape))] H := hPa
              have hD : va_D A [(ra 2, .inl (kI, 8, .inl q_told)), (ra 8, .inl (kI, 40, .inl q_from)), (ra 9, .inl (kI, 40, .inl q_to)), (m0, .inr (11, oX11 ra y74)), (ra 13, .inl (kI, 700, .inl q_tape))] := hDa
              clear hPa hDa
              refine W.widen (k := 0) (n := 0) (Nat.le_of_ble_eq_true rfl) (Nat.le_of_ble_eq_true rfl) ?_
              refine lv_aload_n hx hb dX11_readLink_108 rfl (lv_at hl 2 rfl) ?_
              refine va_get (D := (dC, dI)) (ci := 11) (v := .ref (ra 8)) (C := RX11) (T := TX11) (N := 61) hx hb hts hin11 hown hK hP 3 rfl rfl 9 (Nat.le_of_ble_eq_true rfl) hw_2 (fun _ h9 => h9) rfl dX11_readLink_109 ?_
              refine lv_bipush (v := 20) hx hb dX11_readLink_112 bp_20 ?_
              refine lv_aload_n hx hb dX11_readLink_114 rfl (lv_at hl 2 rfl) ?_
              refine va_get (D := (dC, dI)) (ci := 11) (v := .ref (ra 2)) (C := RX11) (T := TX11) (N := 61) hx hb hts hin11 hown hK hP 3 rfl rfl 3 (Nat.le_of_ble_eq_true rfl) hw_0 (fun _ h9 => h9) rfl dX11_readLink_115 ?_
              refine lv_iconst (v := 5) hx hb dX11_readLink_118 ic_5 ?_
              refine va_iald hx hb hK hP 0 1 rfl rfl (vp_in_nI (n := 5) (by decide) (by decide)) dX11_readLink_119 ?_
              refine W.eq (g2 := F0 m 120 ls [.int (q_told 5), .int 20, .ref (ra 8)]) rfl ?_
              refine lv_iadd hx hb dX11_readLink_120 ?_
              have b85 : iv 20 39 (20 + (q_told 5)) := iv_add ivk_20 b2 (by decide) (by decide) (by decide) (by decide)
              refine lv_iload_n hx hb dX11_readLink_121 rfl (lv_at hl 1 rfl) ?_
              refine va_iast hx hb hK hP hD hS 1 1 rfl rfl (iv_in b85 (by decide) (by decide)) dX11_readLink_122 (fun H locs hPa hDa hS => ?_)
              clear hP hD
              have hP : va_P (dC, dI) vwCl [(ra 2, .inl (kI, 8, .inl q_told)), (ra 8, .inl (kI, 40, .inl (upd q_from (20 + (q_told 5)).toNatClampNeg r18))), (ra 9, .inl (kI, 40, .inl q_to)), (m0, .inr (11, oX11 ra y74)), (ra 13, .inl (kI, 700, .inl q_tape))] H := hPa
              have hD : va_D A [(ra 2, .inl (kI, 8, .inl q_told)), (ra 8, .inl (kI, 40, .inl (upd q_from (20 + (q_told 5)).toNatClampNeg r18))), (ra 9, .inl (kI, 40, .inl q_to)), (m0, .inr (11, oX11 ra y74)), (ra 13, .inl (kI, 700, .inl q_tape))] := hDa
              clear hPa hDa
              refine lv_aload_n hx hb dX11_readLink_123 rfl (lv_at hl 2 rfl) ?_
              refine va_get (D := (dC, dI)) (ci := 11) (v := .ref (ra 9)) (C := RX11) (T := TX11) (N := 61) hx hb hts hin11 hown hK hP 3 rfl rfl 10 (Nat.le_of_ble_eq_true rfl) hw_3 (fun _ h9 => h9) rfl dX11_readLink_124 ?_
              refine lv_bipush (v := 20) hx hb dX11_readLink_127 bp_20 ?_
              refine lv_aload_n hx hb dX11_readLink_129 rfl (lv_at hl 2 rfl) ?_
              refine va_get (D := (dC, dI)) (ci := 11) (v := .ref (ra 2)) (C := RX11) (T := TX11) (N := 61) hx hb hts hin11 hown hK hP 3 rfl rfl 3 (Nat.le_of_ble_eq_true rfl) hw_0 (fun _ h9 => h9) rfl dX11_readLink_130 ?_
              refine lv_iconst (v := 5) hx hb dX11_readLink_133 ic_5 ?_
              refine va_iald hx hb hK hP 0 1 rfl rfl (vp_in_nI (n := 5) (by decide) (by decide)) dX11_readLink_134 ?_
              refine W.eq (g2 := F0 m 135 ls [.int (q_told 5), .int 20, .ref (ra 9)]) rfl ?_
              refine lv_iadd hx hb dX11_readLink_135 ?_
              have b86 : iv 20 39 (20 + (q_told 5)) := iv_add ivk_20 b2 (by decide) (by decide) (by decide) (by decide)
              refine lv_iload_n hx hb dX11_readLink_136 rfl (lv_at hl 0 rfl) ?_
              refine va_iast hx hb hK hP hD hS 2 1 rfl rfl (iv_in b86 (by decide) (by decide)) dX11_readLink_137 (fun H locs hPa hDa hS => ?_)
              clear hP hD
              have hP : va_P (dC, dI) vwCl [(ra 2, .inl (kI, 8, .inl q_told)), (ra 8, .inl (kI, 40, .inl (upd q_from (20 + (q_told 5)).toNatClampNeg r18))), (ra 9, .inl (kI, 40, .inl (upd q_to (20 + (q_told 5)).toNatClampNeg r34))), (m0, .inr (11, oX11 ra y74)), (ra 13, .inl (kI, 700, .inl q_tape))] H := hPa
              have hD : va_D A [(ra 2, .inl (kI, 8, .inl q_told)), (ra 8, .inl (kI, 40, .inl (upd q_from (20 + (q_told 5)).toNatClampNeg r18))), (ra 9, .inl (kI, 40, .inl (upd q_to (20 + (q_told 5)).toNatClampNeg r34))), (m0, .inr (11, oX11 ra y74)), (ra 13, .inl (kI, 700, .inl q_tape))] := hDa
              clear hPa hDa
              refine lv_aload_n hx hb dX11_readLink_138 rfl (lv_at hl 2 rfl) ?_
              refine va_get (D := (dC, dI)) (ci := 11) (v := .ref (ra 2)) (C := RX11) (T := TX11) (N := 61) hx hb hts hin11 hown hK hP 3 rfl rfl 3 (Nat.le_of_ble_eq_true rfl) hw_0 (fun _ h9 => h9) rfl dX11_readLink_139 ?_
              refine lv_iconst (v := 5) hx hb dX11_readLink_142 ic_5 ?_
              refine lv_dup2_11 hx hb dX11_readLink_143 rfl rfl ?_
              refine va_iald hx hb hK hP 0 1 rfl rfl (vp_in_nI (n := 5) (by decide) (by decide)) dX11_readLink_144 ?_
              refine W.eq (g2 := F0 m 145 ls [.int (q_told 5), .int 5, .ref (ra 2)]) rfl ?_
              refine lv_iconst (v := 1) hx hb dX11_readLink_145 ic_1 ?_
              refine lv_iadd hx hb dX11_readLink_146 ?_
              have b87 : iv 1 20 ((q_told 5) + 1) := iv_add b2 ivk_1 (by decide) (by decide) (by decide) (by decide)
              refine va_iast hx hb hK hP hD hS 0 1 rfl rfl (vp_in_nI (n := 5) (by decide) (by decide)) dX11_readLink_147 (fun H locs hPa hDa hS => ?_)
              clear hP hD
              have hP : va_P (dC, dI) vwCl [(ra 2, .inl (kI, 8, .inl (upd q_told 5 ((q_told 5) + 1)))), (ra 8, .inl (kI, 40, .inl (upd q_from (20 + (q_told 5)).toNatClampNeg r18))), (ra 9, .inl (kI, 40, .inl (upd q_to (20 + (q_told 5)).toNatClampNeg r34))), (m0, .inr (11, oX11 ra y74)), (ra 13, .inl (kI, 700, .inl q_tape))] H := hPa
              have hD : va_D A [(ra 2, .inl (kI, 8, .inl (upd q_told 5 ((q_told 5) + 1)))), (ra 8, .inl (kI, 40, .inl (upd q_from (20 + (q_told 5)).toNatClampNeg r18))), (ra 9, .inl (kI, 40, .inl (upd q_to (20 + (q_told 5)).toNatClampNeg r34))), (m0, .inr (11, oX11 ra y74)), (ra 13, .inl (kI, 700, .inl q_tape))] := hDa
              clear hPa hDa
              have hPD9 := cl_s (wc := [(m0, .inr (11, oX11 ra y74)), (ra 2, .inl (kI, 8, .inl (upd q_told 5 ((q_told 5) + 1)))), (ra 8, .inl (kI, 40, .inl (upd q_from (20 + (q_told 5)).toNatClampNeg r18))), (ra 9, .inl (kI, 40, .inl (upd q_to (20 + (q_told 5)).toNatClampNeg r34))), (ra 13, .inl (kI, 700, .inl q_tape))]) hP hD [3, 0, 1, 2, 4] rfl (by decide +kernel)
              have hP9 := hPD9.1
              have hD9 := hPD9.2
              exact W.vret hx hb hr (fun t ht hW => ⟨⟨(), rfl, trivial, y74, upd q_told 5 ((q_told 5) + 1), upd q_from (20 + (q_told 5)).toNatClampNeg r18, upd q_to (20 + (q_told 5)).toNatClampNeg r34, hq75, (fI_u hq_told (k := 5) ((iv_w b87 (by decide) (by decide)))), (fI_u hq_from (k := (20 + (q_told 5)).toNatClampNeg) ((iv_w b65 (by decide) (by decide)))), (fI_u hq_to (k := (20 + (q_told 5)).toNatClampNeg) ((iv_w b66 (by decide) (by decide)))), (show (x0 2).toInt ≤ (y74 2).toInt from by omega), (show y74 3 = x0 3 from hq77.trans (hq39.trans (hq23.trans (hq10)))), lk_lt hLT (hq_told 1) (hq_told 5), lk_ld hLD b2 (Int32.not_le.mp c50), (show RRd tT nN y74 (lnkS tT nN sS (q_told 4) (q_told 5) (shT 20 q_from) (shT 20 q_to)) from it_f (Q := RRd tT nN y74) c1 (hq79)), fun _ => ⟨rfl, congrArg (upd q_from ((20 + (q_told 5)).toNatClampNeg)) (hv9 (ok_ite (ok_next (ok_num (ok_rou (ok_ite (rr_ok hrr71 c46)).1)))).1), congrArg (upd q_to ((20 + (q_told 5)).toNatClampNeg)) (hv8 (ok_ite (rr_ok hrr71 c46)).1)⟩, low_l (by decide) (iv_w b2 (by decide) (by decide)), (show y74 1 = x0 1 from hq80.trans (hq41.trans (hq25.trans (hq13)))), (show y74 10 = x0 10 from hq81.trans (hq42.trans (hq26.trans (hq14)))), (show y74 21 = x0 21 from hq82.trans (hq43.trans (hq27.trans (hq15)))), (show y74 25 = x0 25 from hq83.trans (hq44.trans (hq28.trans (hq16)))), (show y74 23 = x0 23 from hq84.trans (hq45.trans (hq29.trans (hq17)))), by rw [ht]; exact hP9, hD9⟩, hS.F ht⟩) hS.2.2 dX11_readLink_148
            · have b88 : iv 1 1 r67 := iv_neLo c69 w68.1 ivk_0 (by decide) (by decide)
              refine lv_aload_n hx hb dX11_readLink_91 rfl (lv_at hl 2 rfl) ?_
              refine lv_iconst (v := 5) hx hb dX11_readLink_92 ic_5 ?_
              obtain ⟨hPc, hDc, hFc, hJn⟩ := cl_a (wc := [(m0, .inr (11, oX11 ra y36))]) (wr := [(ra 13, .inl (kI, 700, .inl q_tape)), (ra 2, .inl (kI, 8, .inl q_told)), (ra 8, .inl (kI, 40, .inl q_from)), (ra 9, .inl (kI, 40, .inl q_to))]) hP hD hS hA [1] [0, 2, 3, 4] rfl rfl (by decide +kernel)
              refine va_callv (va_runV (As := [.int 5]) (rest := []) ⟨hx, hb, hml, hown, hts⟩ (s11_wrong l dC dI kB kI kJ kZ kC kS H.size m0 ra y36 5 tT nN (rouT tT (q_told 4) (lnk2 tT nN sS (q_told 4) (q_told 5) (shT 20 q_from))) (hq37) ((iv_w ivk_5 (by decide) (by decide))) (hq40)) (cwV 1 hts gX11_readLink_X11_wrong rfl rfl rfl (by decide +kernel) ⟨Nat.le_of_ble_eq_true rfl, Nat.le_of_ble_eq_true rfl⟩) ⟨fun a U g mk q => by obtain ⟨q0, q1, qP, qE, qD⟩ := q; exact ⟨q0, q1, qP, kE_call qE, qD⟩, va_recv hK hP (ci := 11) (q0 := 1) rfl rfl, fun U hU hW => ⟨rfl, by rw [hU], by rw [hU]; exact hPc, kE_warm hW hE, hDc.weaken (fun _ _ _ _ => trivial)⟩⟩ rfl rfl hl.1 rfl (lv_room (Nat.le_of_ble_eq_true rfl)) dX11_readLink_93 ⟨Nat.le_of_ble_eq_true rfl, Nat.le_of_ble_eq_true rfl⟩) hS (fun q _ h => hFc q h) hFc (fun u t H locs ht hvm w90 hB hz1 hk1 hS => ?_)
              obtain ⟨y91, hq92, hq93, hq94, hq95, hq96, hq97, hq98, hq99, hq100, hq101, hP1, hD1⟩ := hB
              try dsimp only at w90
              obtain ⟨hPa, hDa⟩ := hJn (w1 := [(m0, .inr (11, oX11 ra y91))]) hk1 ht hP1 hD1
              clear hP hD hPc hDc hFc hJn hP1 hD1 hk1
              have hP : va_P (dC, dI) vwCl [(ra 13, .inl (kI, 700, .inl q_tape)), (ra 2, .inl (kI, 8, .inl q_told)), (ra 8, .inl (kI, 40, .inl q_from)), (ra 9, .inl (kI, 40, .inl q_to)), (m0, .inr (11, oX11 ra y91))] H := hPa
              have hD : va_D A [(ra 13, .inl (kI, 700, .inl q_tape)), (ra 2, .inl (kI, 8, .inl q_told)), (ra 8, .inl (kI, 40, .inl q_from)), (ra 9, .inl (kI, 40, .inl q_to)), (m0, .inr (11, oX11 ra y91))] := hDa
              clear hPa hDa
              refine W.widen (k := 0) (n := 0) (Nat.le_of_ble_eq_true rfl) (Nat.le_of_ble_eq_true rfl) ?_
              have hok9 := rr_ok hq40 c46
              have hb9 := hv8 hok9
              have ha9 := hv9 (ok_ite (ok_next (ok_num (ok_rou hok9)))).1
              have hrr102 : RRd tT nN y91 (iteT (lnkB tT nN sS (q_told 4) (q_told 5) (shT 20 q_from) ≤ lnkA tT nN sS ∨ hasT (shT 20 q_from) (shT 20 q_to) (q_told 5) (lnkA tT nN sS) (lnkB tT nN sS (q_told 4) (q_told 5) (shT 20 q_from))) (failT 5 (lnk3 tT nN sS (q_told 4) (q_told 5) (shT 20 q_from))) (lnk3 tT nN sS (q_told 4) (q_told 5) (shT 20 q_from))) := it_t (Q := RRd tT nN y91) (Or.inr (by have q := (hh9.resolve_left (fun w => c69 w.1)).2; rw [ha9, hb9] at q; exact q)) (hq96)
              refine lv_aload_n hx hb dX11_readLink_96 rfl (lv_at hl 2 rfl) ?_
              refine va_get (D := (dC, dI)) (ci := 11) (v := .int (y91 8)) (C := RX11) (T := TX11) (N := 61) hx hb hts hin11 hown hK hP 4 rfl rfl 22 (Nat.le_of_ble_eq_true rfl) hw_1 (fun _ h9 => h9) rfl dX11_readLink_97 ?_
              refine lv_if_eq (tgt := 104) hx hb dX11_readLink_100 rfl (fun c9 => absurd c9 (iv_ne hq93 ivk_0 (by decide))) (fun _ => ?_)
              have hPD9 := cl_s (wc := [(m0, .inr (11, oX11 ra y91)), (ra 2, .inl (kI, 8, .inl q_told)), (ra 8, .inl (kI, 40, .inl q_from)), (ra 9, .inl (kI, 40, .inl q_to)), (ra 13, .inl (kI, 700, .inl q_tape))]) hP hD [4, 1, 2, 3, 0] rfl (by decide +kernel)
              have hP9 := hPD9.1
              have hD9 := hPD9.2
              exact W.vret hx hb hr (fun t ht hW => ⟨⟨(), rfl, trivial, y91, q_told, q_from, q_to, hq92, hq_told, hq_from, hq_to, (show (x0 2).toInt ≤ (y91 2).toInt from by omega), (show y91 3 = x0 3 from hq95.trans (hq39.trans (hq23.trans (hq10)))), (show ∀ j : Nat, (j : Int) < (q_told 1).toInt → (q_from j).toInt < (q_to j).toInt from hLT), (show ∀ j : Nat, (j : Int) < (q_told 5).toInt → (q_from (20 + j)).toInt < (q_to (20 + j)).toInt from hLD), (show RRd tT nN y91 (lnkS tT nN sS (q_told 4) (q_told 5) (shT 20 q_from) (shT 20 q_to)) from it_f (Q := RRd tT nN y91) c1 ((rr_stepN hrr102 (iv_ne hq93 ivk_0 (by decide))))), (show y91 8 = 0 → q_told = upd q_told 5 (q_told 5 + 1) ∧ q_from = upd q_from ((20 + (q_told 5)).toNatClampNeg) (lnkA tT nN sS) ∧ q_to = upd q_to ((20 + (q_told 5)).toNatClampNeg) (lnkB tT nN sS (q_told 4) (q_told 5) (shT 20 q_from)) from fun w => absurd w (iv_ne hq93 ivk_0 (by decide))), (show LowT q_told q_from q_to q_told q_from q_to from low_0), (show y91 1 = x0 1 from hq97.trans (hq41.trans (hq25.trans (hq13)))), (show y91 10 = x0 10 from hq98.trans (hq42.trans (hq26.trans (hq14)))), (show y91 21 = x0 21 from hq99.trans (hq43.trans (hq27.trans (hq15)))), (show y91 25 = x0 25 from hq100.trans (hq44.trans (hq28.trans (hq16)))), (show y91 23 = x0 23 from hq101.trans (hq45.trans (hq29.trans (hq17)))), by rw [ht]; exact hP9, hD9⟩, hS.F ht⟩) hS.2.2 dX11_readLink_103
      · have b103 : iv 0 0 (y20 8) := iv_eqL c30 ivk_0
        refine lv_aload_n hx hb dX11_readLink_40 rfl (lv_at hl 1 rfl) ?_
        refine lv_iload_n hx hb dX11_readLink_41 rfl (lv_at hl 0 rfl) ?_
        obtain ⟨hPc, hDc, hFc, hJn⟩ := cl_a (wc := [(m0, .inr (11, oX11 ra y20)), (ra 2, .inl (kI, 8, .inl q_told)), (ra 8, .inl (kI, 40, .inl q_from))]) (wr := [(ra 9, .inl (kI, 40, .inl q_to)), (ra 13, .inl (kI, 700, .inl q_tape))]) hP hD hS hA [3, 4, 0] [1, 2] rfl rfl (by decide +kernel)
        refine va_calli (va_runV (As := [.int r18]) (rest := []) ⟨hx, hb, hml, hown, hts⟩ (s11_linksFrom l dC dI kB kI kJ kZ kC kS H.size m0 ra y20 q_told q_from r18 (hq21) (hq_told) (hq_from)) (cwV 1 hts gX11_readLink_X11_linksFrom rfl rfl rfl (by decide +kernel) ⟨Nat.le_of_ble_eq_true rfl, Nat.le_of_ble_eq_true rfl⟩) ⟨fun a U g mk q => by obtain ⟨q0, q1, qP, qE, qD⟩ := q; exact ⟨q0, q1, qP, kE_call qE, qD⟩, va_recv hK hP (ci := 11) (q0 := 3) rfl rfl, fun U hU hW => ⟨rfl, by rw [hU], by rw [hU]; exact hPc, kE_warm hW hE, hDc.weaken (fun _ _ _ _ => trivial)⟩⟩ rfl rfl hl.1 rfl (lv_room (Nat.le_of_ble_eq_true rfl)) dX11_readLink_42 ⟨Nat.le_of_ble_eq_true rfl, Nat.le_of_ble_eq_true rfl⟩) hS (fun q _ h => hFc q h) hFc (fun r104 u t H locs ht hvm w105 hB hz1 hk1 hS => ?_)
        obtain ⟨hP1, hD1⟩ := hB
        try dsimp only at w105
        obtain ⟨hPa, hDa⟩ := hJn (w1 := [(m0, .inr (11, oX11 ra y20)), (ra 2, .inl (kI, 8, .inl q_told)), (ra 8, .inl (kI, 40, .inl q_from))]) hk1 ht hP1 hD1
        clear hP hD hPc hDc hFc hJn hP1 hD1 hk1
        have hP : va_P (dC, dI) vwCl [(ra 9, .inl (kI, 40, .inl q_to)), (ra 13, .inl (kI, 700, .inl q_tape)), (m0, .inr (11, oX11 ra y20)), (ra 2, .inl (kI, 8, .inl q_told)), (ra 8, .inl (kI, 40, .inl q_from))] H := hPa
        have hD : va_D A [(ra 9, .inl (kI, 40, .inl q_to)), (ra 13, .inl (kI, 700, .inl q_tape)), (m0, .inr (11, oX11 ra y20)), (ra 2, .inl (kI, 8, .inl q_told)), (ra 8, .inl (kI, 40, .inl q_from))] := hDa
        clear hPa hDa
        refine W.widen (k := 0) (n := 0) (Nat.le_of_ble_eq_true rfl) (Nat.le_of_ble_eq_true rfl) ?_
        obtain ⟨w105, b106⟩ := w105
        subst w105
        refine lv_iconst (v := 4) hx hb dX11_readLink_45 ic_4 ?_
        refine lv_icmp_ne (tgt := 54) hx hb dX11_readLink_46 rfl (fun c107 => ?_) (fun c107 => ?_)
        · have ha9 := hv9 (rr_ok hq24 c30)
          have hrr108 : RRd tT nN y20 (iteT (cntT (shT 20 q_from) (lnkA tT nN sS) (q_told 5).toNatClampNeg = 4) (failT 2 (lnk1 tT nN sS (q_told 4))) (lnk1 tT nN sS (q_told 4))) := it_f (Q := RRd tT nN y20) (by have q := c107; rw [ha9] at q; exact ct_4n q) (hq24)
          refine lv_aload_n hx hb dX11_readLink_54 rfl (lv_at hl 1 rfl) ?_
          refine va_get (D := (dC, dI)) (ci := 11) (v := .int (y20 8)) (C := RX11) (T := TX11) (N := 61) hx hb hts hin11 hown hK hP 2 rfl rfl 22 (Nat.le_of_ble_eq_true rfl) hw_1 (fun _ h9 => h9) rfl dX11_readLink_55 ?_
          refine lv_if_ne (tgt := 65) hx hb dX11_readLink_58 rfl (fun c9 => absurd (c30) c9) (fun _ => ?_)
          refine lv_aload_n hx hb dX11_readLink_61 rfl (lv_at hl 1 rfl) ?_
          obtain ⟨hPc, hDc, hFc, hJn⟩ := cl_a (wc := [(m0, .inr (11, oX11 ra y20)), (ra 13, .inl (kI, 700, .inl q_tape))]) (wr := [(ra 9, .inl (kI, 40, .inl q_to)), (ra 2, .inl (kI, 8, .inl q_told)), (ra 8, .inl (kI, 40, .inl q_from))]) hP hD hS hA [2, 1] [0, 3, 4] rfl rfl (by decide +kernel)
          refine va_callv (va_runV (As := []) (rest := []) ⟨hx, hb, hml, hown, hts⟩ (s11_stepOn l dC dI kB kI kJ kZ kC kS H.size m0 ra y20 q_tape tT nN (nextT tT nN (iteT (cntT (shT 20 q_from) (lnkA tT nN sS) (q_told 5).toNatClampNeg = 4) (failT 2 (lnk1 tT nN sS (q_told 4))) (lnk1 tT nN sS (q_told 4)))) (hq21) (hq_tape) (hrr108.2) (stp_of hrr108) (hTQ)) (cwV 0 hts gX11_readLink_X11_stepOn rfl rfl rfl (by decide +kernel) ⟨Nat.le_of_ble_eq_true rfl, Nat.le_of_ble_eq_true rfl⟩) ⟨fun a U g mk q => by obtain ⟨q0, q1, qP, qE, qD⟩ := q; exact ⟨q0, q1, qP, kE_call qE, qD⟩, va_recv hK hP (ci := 11) (q0 := 2) rfl rfl, fun U hU hW => ⟨rfl, by rw [hU], by rw [hU]; exact hPc, kE_warm hW hE, hDc.weaken (fun _ _ _ _ => trivial)⟩⟩ rfl rfl hl.1 rfl (lv_room (Nat.le_of_ble_eq_true rfl)) dX11_readLink_62 ⟨Nat.le_of_ble_eq_true rfl, Nat.le_of_ble_eq_true rfl⟩) hS (fun q _ h => hFc q h) hFc (fun u t H locs ht hvm w110 hB hz1 hk1 hS => ?_)
          obtain ⟨y111, hq112, hq113, hq114, hq115, hq116, hq117, hq118, hq119, hq120, hq121, hP1, hD1⟩ := hB
          try dsimp only at w110
          obtain ⟨hPa, hDa⟩ := hJn (w1 := [(m0, .inr (11, oX11 ra y111)), (ra 13, .inl (kI, 700, .inl q_tape))]) hk1 ht hP1 hD1
          clear hP hD hPc hDc hFc hJn hP1 hD1 hk1
          have hP : va_P (dC, dI) vwCl [(ra 9, .inl (kI, 40, .inl q_to)), (ra 2, .inl (kI, 8, .inl q_told)), (ra 8, .inl (kI, 40, .inl q_from)), (m0, .inr (11, oX11 ra y111)), (ra 13, .inl (kI, 700, .inl q_tape))] H := hPa
          have hD : va_D A [(ra 9, .inl (kI, 40, .inl q_to)), (ra 2, .inl (kI, 8, .inl q_told)), (ra 8, .inl (kI, 40, .inl q_from)), (m0, .inr (11, oX11 ra y111)), (ra 13, .inl (kI, 700, .inl q_tape))] := hDa
          clear hPa hDa
          refine W.widen (k := 0) (n := 0) (Nat.le_of_ble_eq_true rfl) (Nat.le_of_ble_eq_true rfl) ?_
          have hrr122 : RRd tT nN y111 (lnk2 tT nN sS (q_told 4) (q_told 5) (shT 20 q_from)) := hq116
          refine lv_aload_n hx hb dX11_readLink_65 rfl (lv_at hl 1 rfl) ?_
          obtain ⟨hPc, hDc, hFc, hJn⟩ := cl_a (wc := [(m0, .inr (11, oX11 ra y111)), (ra 2, .inl (kI, 8, .inl q_told))]) (wr := [(ra 9, .inl (kI, 40, .inl q_to)), (ra 8, .inl (kI, 40, .inl q_from)), (ra 13, .inl (kI, 700, .inl q_tape))]) hP hD hS hA [3, 1] [0, 2, 4] rfl rfl (by decide +kernel)
          refine va_calli (va_runV (As := []) (rest := []) ⟨hx, hb, hml, hown, hts⟩ (s11_routerNow l dC dI kB kI kJ kZ kC kS H.size m0 ra y111 q_told tT nN (lnk2 tT nN sS (q_told 4) (q_told 5) (shT 20 q_from)) (hq112) (hq_told) (hrr122)) (cwV 0 hts gX11_readLink_X11_routerNow rfl rfl rfl (by decide +kernel) ⟨Nat.le_of_ble_eq_true rfl, Nat.le_of_ble_eq_true rfl⟩) ⟨fun a U g mk q => by obtain ⟨q0, q1, qP, qE, qD⟩ := q; exact ⟨q0, q1, qP, kE_call qE, qD⟩, va_recv hK hP (ci := 11) (q0 := 3) rfl rfl, fun U hU hW => ⟨rfl, by rw [hU], by rw [hU]; exact hPc, kE_warm hW hE, hDc.weaken (fun _ _ _ _ => trivial)⟩⟩ rfl rfl hl.1 rfl (lv_room (Nat.le_of_ble_eq_true rfl)) dX11_readLink_66 ⟨Nat.le_of_ble_eq_true rfl, Nat.le_of_ble_eq_true rfl⟩) hS (fun q _ h => hFc q h) hFc (fun r123 u t H locs ht hvm w124 hB hz1 hk1 hS => ?_)
          obtain ⟨y125, hq126, hq127, hq128, hq129, hq130, hq131, hq132, hq133, hq134, hP1, hD1⟩ := hB
          try dsimp only at w124
          obtain ⟨hPa, hDa⟩ := hJn (w1 := [(m0, .inr (11, oX11 ra y125)), (ra 2, .inl (kI, 8, .inl q_told))]) hk1 ht hP1 hD1
          clear hP hD hPc hDc hFc hJn hP1 hD1 hk1
          have hP : va_P (dC, dI) vwCl [(ra 9, .inl (kI, 40, .inl q_to)), (ra 8, .inl (kI, 40, .inl q_from)), (ra 13, .inl (kI, 700, .inl q_tape)), (m0, .inr (11, oX11 ra y125)), (ra 2, .inl (kI, 8, .inl q_told))] H := hPa
          have hD : va_D A [(ra 9, .inl (kI, 40, .inl q_to)), (ra 8, .inl (kI, 40, .inl q_from)), (ra 13, .inl (kI, 700, .inl q_tape)), (m0, .inr (11, oX11 ra y125)), (ra 2, .inl (kI, 8, .inl q_told))] := hDa
          clear hPa hDa
          refine W.widen (k := 0) (n := 0) (Nat.le_of_ble_eq_true rfl) (Nat.le_of_ble_eq_true rfl) ?_
          have hv8 := w124.2
          refine lv_istore_n (lv' := [(2, .int r123), (1, .int r18), (0, .ref m0)]) hx hb dX11_readLink_69 rfl hl (Nat.le_of_ble_eq_true rfl) rfl (fun ls hl => ?_)
          refine lv_aload_n hx hb dX11_readLink_70 rfl (lv_at hl 2 rfl) ?_
          refine va_get (D := (dC, dI)) (ci := 11) (v := .int (y125 8)) (C := RX11) (T := TX11) (N := 61) hx hb hts hin11 hown hK hP 3 rfl rfl 22 (Nat.le_of_ble_eq_true rfl) hw_1 (fun _ h9 => h9) rfl dX11_readLink_71 ?_
          refine lv_if_ne (tgt := 96) hx hb dX11_readLink_74 rfl (fun c135 => ?_) (fun c135 => ?_)
          · have b136 : iv 1 5 (y125 8) := iv_neLo c135 (hq126 8 : iv 0 5 (y125 8)) ivk_0 (by decide) (by decide)
            have hrr137 : RRd tT nN y125 (iteT (lnkB tT nN sS (q_told 4) (q_told 5) (shT 20 q_from) ≤ lnkA tT nN sS ∨ hasT (shT 20 q_from) (shT 20 q_to) (q_told 5) (lnkA tT nN sS) (lnkB tT nN sS (q_told 4) (q_told 5) (shT 20 q_from))) (failT 5 (lnk3 tT nN sS (q_told 4) (q_told 5) (shT 20 q_from))) (lnk3 tT nN sS (q_told 4) (q_told 5) (shT 20 q_from))) := ite_r hq129 c135 ▸ hq129
            refine lv_aload_n hx hb dX11_readLink_96 rfl (lv_at hl 2 rfl) ?_
            refine va_get (D := (dC, dI)) (ci := 11) (v := .int (y125 8)) (C := RX11) (T := TX11) (N := 61) hx hb hts hin11 hown hK hP 3 rfl rfl 22 (Nat.le_of_ble_eq_true rfl) hw_1 (fun _ h9 => h9) rfl dX11_readLink_97 ?_
            refine lv_if_eq (tgt := 104) hx hb dX11_readLink_100 rfl (fun c9 => absurd c9 (c135)) (fun _ => ?_)
            have hPD9 := cl_s (wc := [(m0, .inr (11, oX11 ra y125)), (ra 2, .inl (kI, 8, .inl q_told)), (ra 8, .inl (kI, 40, .inl q_from)), (ra 9, .inl (kI, 40, .inl q_to)), (ra 13, .inl (kI, 700, .inl q_tape))]) hP hD [3, 4, 1, 0, 2] rfl (by decide +kernel)
            have hP9 := hPD9.1
            have hD9 := hPD9.2
            exact W.vret hx hb hr (fun t ht hW => ⟨⟨(), rfl, trivial, y125, q_told, q_from, q_to, hq126, hq_told, hq_from, hq_to, (show (x0 2).toInt ≤ (y125 2).toInt from by omega), (show y125 3 = x0 3 from hq128.trans (hq114.trans (hq23.trans (hq10)))), (show ∀ j : Nat, (j : Int) < (q_told 1).toInt → (q_from j).toInt < (q_to j).toInt from hLT), (show ∀ j : Nat, (j : Int) < (q_told 5).toInt → (q_from (20 + j)).toInt < (q_to (20 + j)).toInt from hLD), (show RRd tT nN y125 (lnkS tT nN sS (q_told 4) (q_told 5) (shT 20 q_from) (shT 20 q_to)) from it_f (Q := RRd tT nN y125) c1 ((rr_stepN hrr137 c135))), (show y125 8 = 0 → q_told = upd q_told 5 (q_told 5 + 1) ∧ q_from = upd q_from ((20 + (q_told 5)).toNatClampNeg) (lnkA tT nN sS) ∧ q_to = upd q_to ((20 + (q_told 5)).toNatClampNeg) (lnkB tT nN sS (q_told 4) (q_told 5) (shT 20 q_from)) from fun w => absurd w c135), (show LowT q_told q_from q_to q_told q_from q_to from low_0), (show y125 1 = x0 1 from hq130.trans (hq117.trans (hq25.trans (hq13)))), (show y125 10 = x0 10 from hq131.trans (hq118.trans (hq26.trans (hq14)))), (show y125 21 = x0 21 from hq132.trans (hq119.trans (hq27.trans (hq15)))), (show y125 25 = x0 25 from hq133.trans (hq120.trans (hq28.trans (hq16)))), (show y125 23 = x0 23 from hq134.trans (hq121.trans (hq29.trans (hq17)))), by rw [ht]; exact hP9, hD9⟩, hS.F ht⟩) hS.2.2 dX11_readLink_103
          · have b138 : iv 0 0 (y125 8) := iv_eqL c135 ivk_0
            refine lv_iload_n hx hb dX11_readLink_77 rfl (lv_at hl 0 rfl) ?_
            refine lv_iload_n hx hb dX11_readLink_78 rfl (lv_at hl 1 rfl) ?_
            refine lv_icmp_le (tgt := 91) hx hb dX11_readLink_79 rfl (fun c139 => ?_) (fun c139 => ?_)
            · refine lv_aload_n hx hb dX11_readLink_91 rfl (lv_at hl 2 rfl) ?_
              refine lv_iconst (v := 5) hx hb dX11_readLink_92 ic_5 ?_
              obtain ⟨hPc, hDc, hFc, hJn⟩ := cl_a (wc := [(m0, .inr (11, oX11 ra y125))]) (wr := [(ra 9, .inl (kI, 40, .inl q_to)), (ra 8, .inl (kI, 40, .inl q_from)), (ra 13, .inl (kI, 700, .inl q_tape)), (ra 2, .inl (kI, 8, .inl q_told))]) hP hD hS hA [3] [0, 1, 2, 4] rfl rfl (by decide +kernel)
              refine va_callv (va_runV (As := [.int 5]) (rest := []) ⟨hx, hb, hml, hown, hts⟩ (s11_wrong l dC dI kB kI kJ kZ kC kS H.size m0 ra y125 5 tT nN (rouT tT (q_told 4) (lnk2 tT nN sS (q_told 4) (q_told 5) (shT 20 q_from))) (hq126) ((iv_w ivk_5 (by decide) (by decide))) (hq129)) (cwV 1 hts gX11_readLink_X11_wrong rfl rfl rfl (by decide +kernel) ⟨Nat.le_of_ble_eq_true rfl, Nat.le_of_ble_eq_true rfl⟩) ⟨fun a U g mk q => by obtain ⟨q0, q1, qP, qE, qD⟩ := q; exact ⟨q0, q1, qP, kE_call qE, qD⟩, va_recv hK hP (ci := 11) (q0 := 3) rfl rfl, fun U hU hW => ⟨rfl, by rw [hU], by rw [hU]; exact hPc, kE_warm hW hE, hDc.weaken (fun _ _ _ _ => trivial)⟩⟩ rfl rfl hl.1 rfl (lv_room (Nat.le_of_ble_eq_true rfl)) dX11_readLink_93 ⟨Nat.le_of_ble_eq_true rfl, Nat.le_of_ble_eq_true rfl⟩) hS (fun q _ h => hFc q h) hFc (fun u t H locs ht hvm w141 hB hz1 hk1 hS => ?_)
              obtain ⟨y142, hq143, hq144, hq145, hq146, hq147, hq148, hq149, hq150, hq151, hq152, hP1, hD1⟩ := hB
              try dsimp only at w141
              obtain ⟨hPa, hDa⟩ := hJn (w1 := [(m0, .inr (11, oX11 ra y142))]) hk1 ht hP1 hD1
              clear hP hD hPc hDc hFc hJn hP1 hD1 hk1
              have hP : va_P (dC, dI) vwCl [(ra 9, .inl (kI, 40, .inl q_to)), (ra 8, .inl (kI, 40, .inl q_from)), (ra 13, .inl (kI, 700, .inl q_tape)), (ra 2, .inl (kI, 8, .inl q_told)), (m0, .inr (11, oX11 ra y142))] H := hPa
              have hD : va_D A [(ra 9, .inl (kI, 40, .inl q_to)), (ra 8, .inl (kI, 40, .inl q_from)), (ra 13, .inl (kI, 700, .inl q_tape)), (ra 2, .inl (kI, 8, .inl q_told)), (m0, .inr (11, oX11 ra y142))] := hDa
              clear hPa hDa
              refine W.widen (k := 0) (n := 0) (Nat.le_of_ble_eq_true rfl) (Nat.le_of_ble_eq_true rfl) ?_
              have hok9 := rr_ok hq129 c135
              have hb9 := hv8 hok9
              have ha9 := hv9 (ok_ite (ok_next (ok_num (ok_rou hok9)))).1
              have hrr153 : RRd tT nN y142 (iteT (lnkB tT nN sS (q_told 4) (q_told 5) (shT 20 q_from) ≤ lnkA tT nN sS ∨ hasT (shT 20 q_from) (shT 20 q_to) (q_told 5) (lnkA tT nN sS) (lnkB tT nN sS (q_told 4) (q_told 5) (shT 20 q_from))) (failT 5 (lnk3 tT nN sS (q_told 4) (q_told 5) (shT 20 q_from))) (lnk3 tT nN sS (q_told 4) (q_told 5) (shT 20 q_from))) := it_t (Q := RRd tT nN y142) (Or.inl (by have q := c139; rw [ha9, hb9] at q; exact q)) (hq147)
              refine lv_aload_n hx hb dX11_readLink_96 rfl (lv_at hl 2 rfl) ?_
              refine va_get (D := (dC, dI)) (ci := 11) (v := .int (y142 8)) (C := RX11) (T := TX11) (N := 61) hx hb hts hin11 hown hK hP 4 rfl rfl 22 (Nat.le_of_ble_eq_true rfl) hw_1 (fun _ h9 => h9) rfl dX11_readLink_97 ?_
              refine lv_if_eq (tgt := 104) hx hb dX11_readLink_100 rfl (fun c9 => absurd c9 (iv_ne hq144 ivk_0 (by decide))) (fun _ => ?_)
              have hPD9 := cl_s (wc := [(m0, .inr (11, oX11 ra y142)), (ra 2, .inl (kI, 8, .inl q_told)), (ra 8, .inl (kI, 40, .inl q_from)), (ra 9, .inl (kI, 40, .inl q_to)), (ra 13, .inl (kI, 700, .inl q_tape))]) hP hD [4, 3, 1, 0, 2] rfl (by decide +kernel)
              have hP9 := hPD9.1
              have hD9 := hPD9.2
              exact W.vret hx hb hr (fun t ht hW => ⟨⟨(), rfl, trivial, y142, q_told, q_from, q_to, hq143, hq_told, hq_from, hq_to, (show (x0 2).toInt ≤ (y142 2).toInt from by omega), (show y142 3 = x0 3 from hq146.trans (hq128.trans (hq114.trans (hq23.trans (hq10))))), (show ∀ j : Nat, (j : Int) < (q_told 1).toInt → (q_from j).toInt < (q_to j).toInt from hLT), (show ∀ j : Nat, (j : Int) < (q_told 5).toInt → (q_from (20 + j)).toInt < (q_to (20 + j)).toInt from hLD), (show RRd tT nN y142 (lnkS tT nN sS (q_told 4) (q_told 5) (shT 20 q_from) (shT 20 q_to)) from it_f (Q := RRd tT nN y142) c1 ((rr_stepN hrr153 (iv_ne hq144 ivk_0 (by decide))))), (show y142 8 = 0 → q_told = upd q_told 5 (q_told 5 + 1) ∧ q_from = upd q_from ((20 + (q_told 5)).toNatClampNeg) (lnkA tT nN sS) ∧ q_to = upd q_to ((20 + (q_told 5)).toNatClampNeg) (lnkB tT nN sS (q_told 4) (q_told 5) (shT 20 q_from)) from fun w => absurd w (iv_ne hq144 ivk_0 (by decide))), (show LowT q_told q_from q_to q_told q_from q_to from low_0), (show y142 1 = x0 1 from hq148.trans (hq130.trans (hq117.trans (hq25.trans (hq13))))), (show y142 10 = x0 10 from hq149.trans (hq131.trans (hq118.trans (hq26.trans (hq14))))), (show y142 21 = x0 21 from hq150.trans (hq132.trans (hq119.trans (hq27.trans (hq15))))), (show y142 25 = x0 25 from hq151.trans (hq133.trans (hq120.trans (hq28.trans (hq16))))), (show y142 23 = x0 23 from hq152.trans (hq134.trans (hq121.trans (hq29.trans (hq17))))), by rw [ht]; exact hP9, hD9⟩, hS.F ht⟩) hS.2.2 dX11_readLink_103
            · have b154 : iv 0 10 r18 := iv_ltL (Int32.not_le.mp c139) w19.1 w124.1 (by decide) (by decide)
              have b155 : iv 1 11 r123 := iv_ltR (Int32.not_le.mp c139) w19.1 w124.1 (by decide) (by decide)
              refine lv_aload_n hx hb dX11_readLink_82 rfl (lv_at hl 2 rfl) ?_
              refine lv_iload_n hx hb dX11_readLink_83 rfl (lv_at hl 1 rfl) ?_
              refine lv_iload_n hx hb dX11_readLink_84 rfl (lv_at hl 0 rfl) ?_
              obtain ⟨hPc, hDc, hFc, hJn⟩ := cl_a (wc := [(m0, .inr (11, oX11 ra y125)), (ra 2, .inl (kI, 8, .inl q_told)), (ra 8, .inl (kI, 40, .inl q_from)), (ra 9, .inl (kI, 40, .inl q_to))]) (wr := [(ra 13, .inl (kI, 700, .inl q_tape))]) hP hD hS hA [3, 4, 1, 0] [2] rfl rfl (by decide +kernel)
              refine va_calli (va_runV (As := [.int r18, .int r123]) (rest := []) ⟨hx, hb, hml, hown, hts⟩ (s11_hasLink l dC dI kB kI kJ kZ kC kS H.size m0 ra y125 q_told q_from q_to r18 r123 (hq126) (hq_told) (hq_from) (hq_to)) (cwV 2 hts gX11_readLink_X11_hasLink rfl rfl rfl (by decide +kernel) ⟨Nat.le_of_ble_eq_true rfl, Nat.le_of_ble_eq_true rfl⟩) ⟨fun a U g mk q => by obtain ⟨q0, q1, qP, qE, qD⟩ := q; exact ⟨q0, q1, qP, kE_call qE, qD⟩, va_recv hK hP (ci := 11) (q0 := 3) rfl rfl, fun U hU hW => ⟨rfl, by rw [hU], by rw [hU]; exact hPc, kE_warm hW hE, hDc.weaken (fun _ _ _ _ => trivial)⟩⟩ rfl rfl hl.1 rfl (lv_room (Nat.le_of_ble_eq_true rfl)) dX11_readLink_85 ⟨Nat.le_of_ble_eq_true rfl, Nat.le_of_ble_eq_true rfl⟩) hS (fun q _ h => hFc q h) hFc (fun r156 u t H locs ht hvm w157 hB hz1 hk1 hS => ?_)
              obtain ⟨hP1, hD1⟩ := hB
              try dsimp only at w157
              obtain ⟨hPa, hDa⟩ := hJn (w1 := [(m0, .inr (11, oX11 ra y125)), (ra 2, .inl (kI, 8, .inl q_told)), (ra 8, .inl (kI, 40, .inl q_from)), (ra 9, .inl (kI, 40, .inl q_to))]) hk1 ht hP1 hD1
              clear hP hD hPc hDc hFc hJn hP1 hD1 hk1
              have hP : va_P (dC, dI) vwCl [(ra 13, .inl (kI, 700, .inl q_tape)), (m0, .inr (11, oX11 ra y125)), (ra 2, .inl (kI, 8, .inl q_told)), (ra 8, .inl (kI, 40, .inl q_from)), (ra 9, .inl (kI, 40, .inl q_to))] H := hPa
              have hD : va_D A [(ra 13, .inl (kI, 700, .inl q_tape)), (m0, .inr (11, oX11 ra y125)), (ra 2, .inl (kI, 8, .inl q_told)), (ra 8, .inl (kI, 40, .inl q_from)), (ra 9, .inl (kI, 40, .inl q_to))] := hDa
              clear hPa hDa
              refine W.widen (k := 0) (n := 0) (Nat.le_of_ble_eq_true rfl) (Nat.le_of_ble_eq_true rfl) ?_
              have hh9 := w157.2
              refine lv_if_eq (tgt := 96) hx hb dX11_readLink_88 rfl (fun c158 => ?_) (fun c158 => ?_)
              · have b159 : iv 0 0 r156 := iv_eqL c158 ivk_0
                have hok9 := rr_ok hq129 c135
                have hb9 := hv8 hok9
                have ha9 := hv9 (ok_ite (ok_next (ok_num (ok_rou hok9)))).1
                have hrr160 : RRd tT nN y125 (iteT (lnkB tT nN sS (q_told 4) (q_told 5) (shT 20 q_from) ≤ lnkA tT nN sS ∨ hasT (shT 20 q_from) (shT 20 q_to) (q_told 5) (lnkA tT nN sS) (lnkB tT nN sS (q_told 4) (q_told 5) (shT 20 q_from))) (failT 5 (lnk3 tT nN sS (q_told 4) (q_told 5) (shT 20 q_from))) (lnk3 tT nN sS (q_told 4) (q_told 5) (shT 20 q_from))) := it_f (Q := RRd tT nN y125) (by have q := (hh9.resolve_right (fun w => w.1 c158)).2; have q2 := Int32.not_le.mpr (Int32.not_le.mp c139); rw [ha9, hb9] at q q2; exact fun w => w.elim q2 q) (hq129)
                refine lv_aload_n hx hb dX11_readLink_96 rfl (lv_at hl 2 rfl) ?_
                refine va_get (D := (dC, dI)) (ci := 11) (v := .int (y125 8)) (C := RX11) (T := TX11) (N := 61) hx hb hts hin11 hown hK hP 1 rfl rfl 22 (Nat.le_of_ble_eq_true rfl) hw_1 (fun _ h9 => h9) rfl dX11_readLink_97 ?_
                refine lv_if_eq (tgt := 104) hx hb dX11_readLink_100 rfl (fun _ => ?_) (fun c9 => absurd (c135) c9)
                refine lv_aload_n hx hb dX11_readLink_104 rfl (lv_at hl 2 rfl) ?_
                obtain ⟨hPc, hDc, hFc, hJn⟩ := cl_a (wc := [(m0, .inr (11, oX11 ra y125)), (ra 13, .inl (kI, 700, .inl q_tape))]) (wr := [(ra 2, .inl (kI, 8, .inl q_told)), (ra 8, .inl (kI, 40, .inl q_from)), (ra 9, .inl (kI, 40, .inl q_to))]) hP hD hS hA [1, 0] [2, 3, 4] rfl rfl (by decide +kernel)
                refine va_callv (va_runV (As := []) (rest := []) ⟨hx, hb, hml, hown, hts⟩ (s11_stepOn l dC dI kB kI kJ kZ kC kS H.size m0 ra y125 q_tape tT nN (nextT tT nN (iteT (lnkB tT nN sS (q_told 4) (q_told 5) (shT 20 q_from) ≤ lnkA tT nN sS ∨ hasT (shT 20 q_from) (shT 20 q_to) (q_told 5) (lnkA tT nN sS) (lnkB tT nN sS (q_told 4) (q_told 5) (shT 20 q_from))) (failT 5 (lnk3 tT nN sS (q_told 4) (q_told 5) (shT 20 q_from))) (lnk3 tT nN sS (q_told 4) (q_told 5) (shT 20 q_from)))) (hq126) (hq_tape) (hrr160.2) (stp_of hrr160) (hTQ)) (cwV 0 hts gX11_readLink_X11_stepOn rfl rfl rfl (by decide +kernel) ⟨Nat.le_of_ble_eq_true rfl, Nat.le_of_ble_eq_true rfl⟩) ⟨fun a U g mk q => by obtain ⟨q0, q1, qP, qE, qD⟩ := q; exact ⟨q0, q1, qP, kE_call qE, qD⟩, va_recv hK hP (ci := 11) (q0 := 1) rfl rfl, fun U hU hW => ⟨rfl, by rw [hU], by rw [hU]; exact hPc, kE_warm hW hE, hDc.weaken (fun _ _ _ _ => trivial)⟩⟩ rfl rfl hl.1 rfl (lv_room (Nat.le_of_ble_eq_true rfl)) dX11_readLink_105 ⟨Nat.le_of_ble_eq_true rfl, Nat.le_of_ble_eq_true rfl⟩) hS (fun q _ h => hFc q h) hFc (fun u t H locs ht hvm w162 hB hz1 hk1 hS => ?_)
                obtain ⟨y163, hq164, hq165, hq166, hq167, hq168, hq169, hq170, hq171, hq172, hq173, hP1, hD1⟩ := hB
                try dsimp only at w162
                obtain ⟨hPa, hDa⟩ := hJn (w1 := [(m0, .inr (11, oX11 ra y163)), (ra 13, .inl (kI, 700, .inl q_tape))]) hk1 ht hP1 hD1
                clear hP hD hPc hDc hFc hJn hP1 hD1 hk1
                have hP : va_P (dC, dI) vwCl [(ra 2, .inl (kI, 8, .inl q_told)), (ra 8, .inl (kI, 40, .inl q_from)), (ra 9, .inl (kI, 40, .inl q_to)), (m0, .inr (11, oX11 ra y163)), (ra 13, .inl (kI, 700, .inl q_tape))] H := hPa
                have hD : va_D A [(ra 2, .inl (kI, 8, .inl q_told)), (ra 8, .inl (kI, 40, .inl q_from)), (ra 9, .inl (kI, 40, .inl q_to)), (m0, .inr (11, oX11 ra y163)), (ra 13, .inl (kI, 700, .inl q_tape))] := hDa
                clear hPa hDa
                refine W.widen (k := 0) (n := 0) (Nat.le_of_ble_eq_true rfl) (Nat.le_of_ble_eq_true rfl) ?_
                refine lv_aload_n hx hb dX11_readLink_108 rfl (lv_at hl 2 rfl) ?_
                refine va_get (D := (dC, dI)) (ci := 11) (v := .ref (ra 8)) (C := RX11) (T := TX11) (N := 61) hx hb hts hin11 hown hK hP 3 rfl rfl 9 (Nat.le_of_ble_eq_true rfl) hw_2 (fun _ h9 => h9) rfl dX11_readLink_109 ?_
                refine lv_bipush (v := 20) hx hb dX11_readLink_112 bp_20 ?_
                refine lv_aload_n hx hb dX11_readLink_114 rfl (lv_at hl 2 rfl) ?_
                refine va_get (D := (dC, dI)) (ci := 11) (v := .ref (ra 2)) (C := RX11) (T := TX11) (N := 61) hx hb hts hin11 hown hK hP 3 rfl rfl 3 (Nat.le_of_ble_eq_true rfl) hw_0 (fun _ h9 => h9) rfl dX11_readLink_115 ?_
                refine lv_iconst (v := 5) hx hb dX11_readLink_118 ic_5 ?_
                refine va_iald hx hb hK hP 0 1 rfl rfl (vp_in_nI (n := 5) (by decide) (by decide)) dX11_readLink_119 ?_
                refine W.eq (g2 := F0 m 120 ls [.int (q_told 5), .int 20, .ref (ra 8)]) rfl ?_
                refine lv_iadd hx hb dX11_readLink_120 ?_
                have b174 : iv 20 39 (20 + (q_told 5)) := iv_add ivk_20 b2 (by decide) (by decide) (by decide) (by decide)
                refine lv_iload_n hx hb dX11_readLink_121 rfl (lv_at hl 1 rfl) ?_
                refine va_iast hx hb hK hP hD hS 1 1 rfl rfl (iv_in b174 (by decide) (by decide)) dX11_readLink_122 (fun H locs hPa hDa hS => ?_)
                clear hP hD
                have hP : va_P (dC, dI) vwCl [(ra 2, .inl (kI, 8, .inl q_told)), (ra 8, .inl (kI, 40, .inl (upd q_from (20 + (q_told 5)).toNatClampNeg r18))), (ra 9, .inl (kI, 40, .inl q_to)), (m0, .inr (11, oX11 ra y163)), (ra 13, .inl (kI, 700, .inl q_tape))] H := hPa
                have hD : va_D A [(ra 2, .inl (kI, 8, .inl q_told)), (ra 8, .inl (kI, 40, .inl (upd q_from (20 + (q_told 5)).toNatClampNeg r18))), (ra 9, .inl (kI, 40, .inl q_to)), (m0, .inr (11, oX11 ra y163)), (ra 13, .inl (kI, 700, .inl q_tape))] := hDa
                clear hPa hDa
                refine lv_aload_n hx hb dX11_readLink_123 rfl (lv_at hl 2 rfl) ?_
                refine va_get (D := (dC, dI)) (ci := 11) (v := .ref (ra 9)) (C := RX11) (T := TX11) (N := 61) hx hb hts hin11 hown hK hP 3 rfl rfl 10 (Nat.le_of_ble_eq_true rfl) hw_3 (fun _ h9 => h9) rfl dX11_readLink_124 ?_
                refine lv_bipush (v := 20) hx hb dX11_readLink_127 bp_20 ?_
                refine lv_aload_n hx hb dX11_readLink_129 rfl (lv_at hl 2 rfl) ?_
                refine va_get (D := (dC, dI)) (ci := 11) (v := .ref (ra 2)) (C := RX11) (T := TX11) (N := 61) hx hb hts hin11 hown hK hP 3 rfl rfl 3 (Nat.le_of_ble_eq_true rfl) hw_0 (fun _ h9 => h9) rfl dX11_readLink_130 ?_
                refine lv_iconst (v := 5) hx hb dX11_readLink_133 ic_5 ?_
                refine va_iald hx hb hK hP 0 1 rfl rfl (vp_in_nI (n := 5) (by decide) (by decide)) dX11_readLink_134 ?_
                refine W.eq (g2 := F0 m 135 ls [.int (q_told 5), .int 20, .ref (ra 9)]) rfl ?_
                refine lv_iadd hx hb dX11_readLink_135 ?_
                have b175 : iv 20 39 (20 + (q_told 5)) := iv_add ivk_20 b2 (by decide) (by decide) (by decide) (by decide)
                refine lv_iload_n hx hb dX11_readLink_136 rfl (lv_at hl 0 rfl) ?_
                refine va_iast hx hb hK hP hD hS 2 1 rfl rfl (iv_in b175 (by decide) (by decide)) dX11_readLink_137 (fun H locs hPa hDa hS => ?_)
                clear hP hD
                have hP : va_P (dC, dI) vwCl [(ra 2, .inl (kI, 8, .inl q_told)), (ra 8, .inl (kI, 40, .inl (upd q_from (20 + (q_told 5)).toNatClampNeg r18))), (ra 9, .inl (kI, 40, .inl (upd q_to (20 + (q_told 5)).toNatClampNeg r123))), (m0, .inr (11, oX11 ra y163)), (ra 13, .inl (kI, 700, .inl q_tape))] H := hPa
                have hD : va_D A [(ra 2, .inl (kI, 8, .inl q_told)), (ra 8, .inl (kI, 40, .inl (upd q_from (20 + (q_told 5)).toNatClampNeg r18))), (ra 9, .inl (kI, 40, .inl (upd q_to (20 + (q_told 5)).toNatClampNeg r123))), (m0, .inr (11, oX11 ra y163)), (ra 13, .inl (kI, 700, .inl q_tape))] := hDa
                clear hPa hDa
                refine lv_aload_n hx hb dX11_readLink_138 rfl (lv_at hl 2 rfl) ?_
                refine va_get (D := (dC, dI)) (ci := 11) (v := .ref (ra 2)) (C := RX11) (T := TX11) (N := 61) hx hb hts hin11 hown hK hP 3 rfl rfl 3 (Nat.le_of_ble_eq_true rfl) hw_0 (fun _ h9 => h9) rfl dX11_readLink_139 ?_
                refine lv_iconst (v := 5) hx hb dX11_readLink_142 ic_5 ?_
                refine lv_dup2_11 hx hb dX11_readLink_143 rfl rfl ?_
                refine va_iald hx hb hK hP 0 1 rfl rfl (vp_in_nI (n := 5) (by decide) (by decide)) dX11_readLink_144 ?_
                refine W.eq (g2 := F0 m 145 ls [.int (q_told 5), .int 5, .ref (ra 2)]) rfl ?_
                refine lv_iconst (v := 1) hx hb dX11_readLink_145 ic_1 ?_
                refine lv_iadd hx hb dX11_readLink_146 ?_
                have b176 : iv 1 20 ((q_told 5) + 1) := iv_add b2 ivk_1 (by decide) (by decide) (by decide) (by decide)
                refine va_iast hx hb hK hP hD hS 0 1 rfl rfl (vp_in_nI (n := 5) (by decide) (by decide)) dX11_readLink_147 (fun H locs hPa hDa hS => ?_)
                clear hP hD
                have hP : va_P (dC, dI) vwCl [(ra 2, .inl (kI, 8, .inl (upd q_told 5 ((q_told 5) + 1)))), (ra 8, .inl (kI, 40, .inl (upd q_from (20 + (q_told 5)).toNatClampNeg r18))), (ra 9, .inl (kI, 40, .inl (upd q_to (20 + (q_told 5)).toNatClampNeg r123))), (m0, .inr (11, oX11 ra y163)), (ra 13, .inl (kI, 700, .inl q_tape))] H := hPa
                have hD : va_D A [(ra 2, .inl (kI, 8, .inl (upd q_told 5 ((q_told 5) + 1)))), (ra 8, .inl (kI, 40, .inl (upd q_from (20 + (q_told 5)).toNatClampNeg r18))), (ra 9, .inl (kI, 40, .inl (upd q_to (20 + (q_told 5)).toNatClampNeg r123))), (m0, .inr (11, oX11 ra y163)), (ra 13, .inl (kI, 700, .inl q_tape))] := hDa
                clear hPa hDa
                have hPD9 := cl_s (wc := [(m0, .inr (11, oX11 ra y163)), (ra 2, .inl (kI, 8, .inl (upd q_told 5 ((q_told 5) + 1)))), (ra 8, .inl (kI, 40, .inl (upd q_from (20 + (q_told 5)).toNatClampNeg r18))), (ra 9, .inl (kI, 40, .inl (upd q_to (20 + (q_told 5)).toNatClampNeg r123))), (ra 13, .inl (kI, 700, .inl q_tape))]) hP hD [3, 0, 1, 2, 4] rfl (by decide +kernel)
                have hP9 := hPD9.1
                have hD9 := hPD9.2
                exact W.vret hx hb hr (fun t ht hW => ⟨⟨(), rfl, trivial, y163, upd q_told 5 ((q_told 5) + 1), upd q_from (20 + (q_told 5)).toNatClampNeg r18, upd q_to (20 + (q_told 5)).toNatClampNeg r123, hq164, (fI_u hq_told (k := 5) ((iv_w b176 (by decide) (by decide)))), (fI_u hq_from (k := (20 + (q_told 5)).toNatClampNeg) ((iv_w b154 (by decide) (by decide)))), (fI_u hq_to (k := (20 + (q_told 5)).toNatClampNeg) ((iv_w b155 (by decide) (by decide)))), (show (x0 2).toInt ≤ (y163 2).toInt from by omega), (show y163 3 = x0 3 from hq166.trans (hq128.trans (hq114.trans (hq23.trans (hq10))))), lk_lt hLT (hq_told 1) (hq_told 5), lk_ld hLD b2 (Int32.not_le.mp c139), (show RRd tT nN y163 (lnkS tT nN sS (q_told 4) (q_told 5) (shT 20 q_from) (shT 20 q_to)) from it_f (Q := RRd tT nN y163) c1 (hq168)), fun _ => ⟨rfl, congrArg (upd q_from ((20 + (q_told 5)).toNatClampNeg)) (hv9 (ok_ite (ok_next (ok_num (ok_rou (ok_ite (rr_ok hrr160 c135)).1)))).1), congrArg (upd q_to ((20 + (q_told 5)).toNatClampNeg)) (hv8 (ok_ite (rr_ok hrr160 c135)).1)⟩, low_l (by decide) (iv_w b2 (by decide) (by decide)), (show y163 1 = x0 1 from hq169.trans (hq130.trans (hq117.trans (hq25.trans (hq13))))), (show y163 10 = x0 10 from hq170.trans (hq131.trans (hq118.trans (hq26.trans (hq14))))), (show y163 21 = x0 21 from hq171.trans (hq132.trans (hq119.trans (hq27.trans (hq15))))), (show y163 25 = x0 25 from hq172.trans (hq133.trans (hq120.trans (hq28.trans (hq16))))), (show y163 23 = x0 23 from hq173.trans (hq134.trans (hq121.trans (hq29.trans (hq17))))), by rw [ht]; exact hP9, hD9⟩, hS.F ht⟩) hS.2.2 dX11_readLink_148
              · have b177 : iv 1 1 r156 := iv_neLo c158 w157.1 ivk_0 (by decide) (by decide)
                refine lv_aload_n hx hb dX11_readLink_91 rfl (lv_at hl 2 rfl) ?_
                refine lv_iconst (v := 5) hx hb dX11_readLink_92 ic_5 ?_
                obtain ⟨hPc, hDc, hFc, hJn⟩ := cl_a (wc := [(m0, .inr (11, oX11 ra y125))]) (wr := [(ra 13, .inl (kI, 700, .inl q_tape)), (ra 2, .inl (kI, 8, .inl q_told)), (ra 8, .inl (kI, 40, .inl q_from)), (ra 9, .inl (kI, 40, .inl q_to))]) hP hD hS hA [1] [0, 2, 3, 4] rfl rfl (by decide +kernel)
                refine va_callv (va_runV (As := [.int 5]) (rest := []) ⟨hx, hb, hml, hown, hts⟩ (s11_wrong l dC dI kB kI kJ kZ kC kS H.size m0 ra y125 5 tT nN (rouT tT (q_told 4) (lnk2 tT nN sS (q_told 4) (q_told 5) (shT 20 q_from))) (hq126) ((iv_w ivk_5 (by decide) (by decide))) (hq129)) (cwV 1 hts gX11_readLink_X11_wrong rfl rfl rfl (by decide +kernel) ⟨Nat.le_of_ble_eq_true rfl, Nat.le_of_ble_eq_true rfl⟩) ⟨fun a U g mk q => by obtain ⟨q0, q1, qP, qE, qD⟩ := q; exact ⟨q0, q1, qP, kE_call qE, qD⟩, va_recv hK hP (ci := 11) (q0 := 1) rfl rfl, fun U hU hW => ⟨rfl, by rw [hU], by rw [hU]; exact hPc, kE_warm hW hE, hDc.weaken (fun _ _ _ _ => trivial)⟩⟩ rfl rfl hl.1 rfl (lv_room (Nat.le_of_ble_eq_true rfl)) dX11_readLink_93 ⟨Nat.le_of_ble_eq_true rfl, Nat.le_of_ble_eq_true rfl⟩) hS (fun q _ h => hFc q h) hFc (fun u t H locs ht hvm w179 hB hz1 hk1 hS => ?_)
                obtain ⟨y180, hq181, hq182, hq183, hq184, hq185, hq186, hq187, hq188, hq189, hq190, hP1, hD1⟩ := hB
                try dsimp only at w179
                obtain ⟨hPa, hDa⟩ := hJn (w1 := [(m0, .inr (11, oX11 ra y180))]) hk1 ht hP1 hD1
                clear hP hD hPc hDc hFc hJn hP1 hD1 hk1
                have hP : va_P (dC, dI) vwCl [(ra 13, .inl (kI, 700, .inl q_tape)), (ra 2, .inl (kI, 8, .inl q_told)), (ra 8, .inl (kI, 40, .inl q_from)), (ra 9, .inl (kI, 40, .inl q_to)), (m0, .inr (11, oX11 ra y180))] H := hPa
                have hD : va_D A [(ra 13, .inl (kI, 700, .inl q_tape)), (ra 2, .inl (kI, 8, .inl q_told)), (ra 8, .inl (kI, 40, .inl q_from)), (ra 9, .inl (kI, 40, .inl q_to)), (m0, .inr (11, oX11 ra y180))] := hDa
                clear hPa hDa
                refine W.widen (k := 0) (n := 0) (Nat.le_of_ble_eq_true rfl) (Nat.le_of_ble_eq_true rfl) ?_
                have hok9 := rr_ok hq129 c135
                have hb9 := hv8 hok9
                have ha9 := hv9 (ok_ite (ok_next (ok_num (ok_rou hok9)))).1
                have hrr191 : RRd tT nN y180 (iteT (lnkB tT nN sS (q_told 4) (q_told 5) (shT 20 q_from) ≤ lnkA tT nN sS ∨ hasT (shT 20 q_from) (shT 20 q_to) (q_told 5) (lnkA tT nN sS) (lnkB tT nN sS (q_told 4) (q_told 5) (shT 20 q_from))) (failT 5 (lnk3 tT nN sS (q_told 4) (q_told 5) (shT 20 q_from))) (lnk3 tT nN sS (q_told 4) (q_told 5) (shT 20 q_from))) := it_t (Q := RRd tT nN y180) (Or.inr (by have q := (hh9.resolve_left (fun w => c158 w.1)).2; rw [ha9, hb9] at q; exact q)) (hq185)
                refine lv_aload_n hx hb dX11_readLink_96 rfl (lv_at hl 2 rfl) ?_
                refine va_get (D := (dC, dI)) (ci := 11) (v := .int (y180 8)) (C := RX11) (T := TX11) (N := 61) hx hb hts hin11 hown hK hP 4 rfl rfl 22 (Nat.le_of_ble_eq_true rfl) hw_1 (fun _ h9 => h9) rfl dX11_readLink_97 ?_
                refine lv_if_eq (tgt := 104) hx hb dX11_readLink_100 rfl (fun c9 => absurd c9 (iv_ne hq182 ivk_0 (by decide))) (fun _ => ?_)
                have hPD9 := cl_s (wc := [(m0, .inr (11, oX11 ra y180)), (ra 2, .inl (kI, 8, .inl q_told)), (ra 8, .inl (kI, 40, .inl q_from)), (ra 9, .inl (kI, 40, .inl q_to)), (ra 13, .inl (kI, 700, .inl q_tape))]) hP hD [4, 1, 2, 3, 0] rfl (by decide +kernel)
                have hP9 := hPD9.1
                have hD9 := hPD9.2
                exact W.vret hx hb hr (fun t ht hW => ⟨⟨(), rfl, trivial, y180, q_told, q_from, q_to, hq181, hq_told, hq_from, hq_to, (show (x0 2).toInt ≤ (y180 2).toInt from by omega), (show y180 3 = x0 3 from hq184.trans (hq128.trans (hq114.trans (hq23.trans (hq10))))), (show ∀ j : Nat, (j : Int) < (q_told 1).toInt → (q_from j).toInt < (q_to j).toInt from hLT), (show ∀ j : Nat, (j : Int) < (q_told 5).toInt → (q_from (20 + j)).toInt < (q_to (20 + j)).toInt from hLD), (show RRd tT nN y180 (lnkS tT nN sS (q_told 4) (q_told 5) (shT 20 q_from) (shT 20 q_to)) from it_f (Q := RRd tT nN y180) c1 ((rr_stepN hrr191 (iv_ne hq182 ivk_0 (by decide))))), (show y180 8 = 0 → q_told = upd q_told 5 (q_told 5 + 1) ∧ q_from = upd q_from ((20 + (q_told 5)).toNatClampNeg) (lnkA tT nN sS) ∧ q_to = upd q_to ((20 + (q_told 5)).toNatClampNeg) (lnkB tT nN sS (q_told 4) (q_told 5) (shT 20 q_from)) from fun w => absurd w (iv_ne hq182 ivk_0 (by decide))), (show LowT q_told q_from q_to q_told q_from q_to from low_0), (show y180 1 = x0 1 from hq186.trans (hq130.trans (hq117.trans (hq25.trans (hq13))))), (show y180 10 = x0 10 from hq187.trans (hq131.trans (hq118.trans (hq26.trans (hq14))))), (show y180 21 = x0 21 from hq188.trans (hq132.trans (hq119.trans (hq27.trans (hq15))))), (show y180 25 = x0 25 from hq189.trans (hq133.trans (hq120.trans (hq28.trans (hq16))))), (show y180 23 = x0 23 from hq190.trans (hq134.trans (hq121.trans (hq29.trans (hq17))))), by rw [ht]; exact hP9, hD9⟩, hS.F ht⟩) hS.2.2 dX11_readLink_103
        · have b192 : iv 4 4 (nI (cntT (shT 20 q_from) r18 (q_told 5).toNatClampNeg)) := iv_eqL c107 ivk_4
          refine lv_aload_n hx hb dX11_readLink_49 rfl (lv_at hl 1 rfl) ?_
          refine lv_iconst (v := 2) hx hb dX11_readLink_50 ic_2 ?_
          obtain ⟨hPc, hDc, hFc, hJn⟩ := cl_a (wc := [(m0, .inr (11, oX11 ra y20))]) (wr := [(ra 9, .inl (kI, 40, .inl q_to)), (ra 13, .inl (kI, 700, .inl q_tape)), (ra 2, .inl (kI, 8, .inl q_told)), (ra 8, .inl (kI, 40, .inl q_from))]) hP hD hS hA [2] [0, 1, 3, 4] rfl rfl (by decide +kernel)
          refine va_callv (va_runV (As := [.int 2]) (rest := []) ⟨hx, hb, hml, hown, hts⟩ (s11_wrong l dC dI kB kI kJ kZ kC kS H.size m0 ra y20 2 tT nN (rouT tT (q_told 4) (nextT tT nN sS)) (hq21) ((iv_w ivk_2 (by decide) (by decide))) (hq24)) (cwV 1 hts gX11_readLink_X11_wrong rfl rfl rfl (by decide +kernel) ⟨Nat.le_of_ble_eq_true rfl, Nat.le_of_ble_eq_true rfl⟩) ⟨fun a U g mk q => by obtain ⟨q0, q1, qP, qE, qD⟩ := q; exact ⟨q0, q1, qP, kE_call qE, qD⟩, va_recv hK hP (ci := 11) (q0 := 2) rfl rfl, fun U hU hW => ⟨rfl, by rw [hU], by rw [hU]; exact hPc, kE_warm hW hE, hDc.weaken (fun _ _ _ _ => trivial)⟩⟩ rfl rfl hl.1 rfl (lv_room (Nat.le_of_ble_eq_true rfl)) dX11_readLink_51 ⟨Nat.le_of_ble_eq_true rfl, Nat.le_of_ble_eq_true rfl⟩) hS (fun q _ h => hFc q h) hFc (fun u t H locs ht hvm w194 hB hz1 hk1 hS => ?_)
          obtain ⟨y195, hq196, hq197, hq198, hq199, hq200, hq201, hq202, hq203, hq204, hq205, hP1, hD1⟩ := hB
          try dsimp only at w194
          obtain ⟨hPa, hDa⟩ := hJn (w1 := [(m0, .inr (11, oX11 ra y195))]) hk1 ht hP1 hD1
          clear hP hD hPc hDc hFc hJn hP1 hD1 hk1
          have hP : va_P (dC, dI) vwCl [(ra 9, .inl (kI, 40, .inl q_to)), (ra 13, .inl (kI, 700, .inl q_tape)), (ra 2, .inl (kI, 8, .inl q_told)), (ra 8, .inl (kI, 40, .inl q_from)), (m0, .inr (11, oX11 ra y195))] H := hPa
          have hD : va_D A [(ra 9, .inl (kI, 40, .inl q_to)), (ra 13, .inl (kI, 700, .inl q_tape)), (ra 2, .inl (kI, 8, .inl q_told)), (ra 8, .inl (kI, 40, .inl q_from)), (m0, .inr (11, oX11 ra y195))] := hDa
          clear hPa hDa
          refine W.widen (k := 0) (n := 0) (Nat.le_of_ble_eq_true rfl) (Nat.le_of_ble_eq_true rfl) ?_
          have ha9 := hv9 (rr_ok hq24 c30)
          have hrr206 : RRd tT nN y195 (iteT (cntT (shT 20 q_from) (lnkA tT nN sS) (q_told 5).toNatClampNeg = 4) (failT 2 (lnk1 tT nN sS (q_told 4))) (lnk1 tT nN sS (q_told 4))) := it_t (Q := RRd tT nN y195) (by have q := c107; rw [ha9] at q; exact ct_4 (iv_w b2 (by decide) (by decide)) q) (hq200)
          refine lv_aload_n hx hb dX11_readLink_54 rfl (lv_at hl 1 rfl) ?_
          refine va_get (D := (dC, dI)) (ci := 11) (v := .int (y195 8)) (C := RX11) (T := TX11) (N := 61) hx hb hts hin11 hown hK hP 4 rfl rfl 22 (Nat.le_of_ble_eq_true rfl) hw_1 (fun _ h9 => h9) rfl dX11_readLink_55 ?_
          refine lv_if_ne (tgt := 65) hx hb dX11_readLink_58 rfl (fun _ => ?_) (fun c9 => absurd c9 (iv_ne hq197 ivk_0 (by decide)))
          have hrr207 : RRd tT nN y195 (lnk2 tT nN sS (q_told 4) (q_told 5) (shT 20 q_from)) := rr_stepN hrr206 (iv_ne hq197 ivk_0 (by decide))
          refine lv_aload_n hx hb dX11_readLink_65 rfl (lv_at hl 1 rfl) ?_
          obtain ⟨hPc, hDc, hFc, hJn⟩ := cl_a (wc := [(m0, .inr (11, oX11 ra y195)), (ra 2, .inl (kI, 8, .inl q_told))]) (wr := [(ra 9, .inl (kI, 40, .inl q_to)), (ra 13, .inl (kI, 700, .inl q_tape)), (ra 8, .inl (kI, 40, .inl q_from))]) hP hD hS hA [4, 2] [0, 1, 3] rfl rfl (by decide +kernel)
          refine va_calli (va_runV (As := []) (rest := []) ⟨hx, hb, hml, hown, hts⟩ (s11_routerNow l dC dI kB kI kJ kZ kC kS H.size m0 ra y195 q_told tT nN (lnk2 tT nN sS (q_told 4) (q_told 5) (shT 20 q_from)) (hq196) (hq_told) (hrr207)) (cwV 0 hts gX11_readLink_X11_routerNow rfl rfl rfl (by decide +kernel) ⟨Nat.le_of_ble_eq_true rfl, Nat.le_of_ble_eq_true rfl⟩) ⟨fun a U g mk q => by obtain ⟨q0, q1, qP, qE, qD⟩ := q; exact ⟨q0, q1, qP, kE_call qE, qD⟩, va_recv hK hP (ci := 11) (q0 := 4) rfl rfl, fun U hU hW => ⟨rfl, by rw [hU], by rw [hU]; exact hPc, kE_warm hW hE, hDc.weaken (fun _ _ _ _ => trivial)⟩⟩ rfl rfl hl.1 rfl (lv_room (Nat.le_of_ble_eq_true rfl)) dX11_readLink_66 ⟨Nat.le_of_ble_eq_true rfl, Nat.le_of_ble_eq_true rfl⟩) hS (fun q _ h => hFc q h) hFc (fun r208 u t H locs ht hvm w209 hB hz1 hk1 hS => ?_)
          obtain ⟨y210, hq211, hq212, hq213, hq214, hq215, hq216, hq217, hq218, hq219, hP1, hD1⟩ := hB
          try dsimp only at w209
          obtain ⟨hPa, hDa⟩ := hJn (w1 := [(m0, .inr (11, oX11 ra y210)), (ra 2, .inl (kI, 8, .inl q_told))]) hk1 ht hP1 hD1
          clear hP hD hPc hDc hFc hJn hP1 hD1 hk1
          have hP : va_P (dC, dI) vwCl [(ra 9, .inl (kI, 40, .inl q_to)), (ra 13, .inl (kI, 700, .inl q_tape)), (ra 8, .inl (kI, 40, .inl q_from)), (m0, .inr (11, oX11 ra y210)), (ra 2, .inl (kI, 8, .inl q_told))] H := hPa
          have hD : va_D A [(ra 9, .inl (kI, 40, .inl q_to)), (ra 13, .inl (kI, 700, .inl q_tape)), (ra 8, .inl (kI, 40, .inl q_from)), (m0, .inr (11, oX11 ra y210)), (ra 2, .inl (kI, 8, .inl q_told))] := hDa
          clear hPa hDa
          refine W.widen (k := 0) (n := 0) (Nat.le_of_ble_eq_true rfl) (Nat.le_of_ble_eq_true rfl) ?_
          have hv8 := w209.2
          refine lv_istore_n (lv' := [(2, .int r208), (1, .int r18), (0, .ref m0)]) hx hb dX11_readLink_69 rfl hl (Nat.le_of_ble_eq_true rfl) rfl (fun ls hl => ?_)
          refine lv_aload_n hx hb dX11_readLink_70 rfl (lv_at hl 2 rfl) ?_
          refine va_get (D := (dC, dI)) (ci := 11) (v := .int (y210 8)) (C := RX11) (T := TX11) (N := 61) hx hb hts hin11 hown hK hP 3 rfl rfl 22 (Nat.le_of_ble_eq_true rfl) hw_1 (fun _ h9 => h9) rfl dX11_readLink_71 ?_
          refine lv_if_ne (tgt := 96) hx hb dX11_readLink_74 rfl (fun c220 => ?_) (fun c220 => ?_)
          · have b221 : iv 1 5 (y210 8) := iv_neLo c220 (hq211 8 : iv 0 5 (y210 8)) ivk_0 (by decide) (by decide)
            have hrr222 : RRd tT nN y210 (iteT (lnkB tT nN sS (q_told 4) (q_told 5) (shT 20 q_from) ≤ lnkA tT nN sS ∨ hasT (shT 20 q_from) (shT 20 q_to) (q_told 5) (lnkA tT nN sS) (lnkB tT nN sS (q_told 4) (q_told 5) (shT 20 q_from))) (failT 5 (lnk3 tT nN sS (q_told 4) (q_told 5) (shT 20 q_from))) (lnk3 tT nN sS (q_told 4) (q_told 5) (shT 20 q_from))) := ite_r hq214 c220 ▸ hq214
            refine lv_aload_n hx hb dX11_readLink_96 rfl (lv_at hl 2 rfl) ?_
            refine va_get (D := (dC, dI)) (ci := 11) (v := .int (y210 8)) (C := RX11) (T := TX11) (N := 61) hx hb hts hin11 hown hK hP 3 rfl rfl 22 (Nat.le_of_ble_eq_true rfl) hw_1 (fun _ h9 => h9) rfl dX11_readLink_97 ?_
            refine lv_if_eq (tgt := 104) hx hb dX11_readLink_100 rfl (fun c9 => absurd c9 (c220)) (fun _ => ?_)
            have hPD9 := cl_s (wc := [(m0, .inr (11, oX11 ra y210)), (ra 2, .inl (kI, 8, .inl q_told)), (ra 8, .inl (kI, 40, .inl q_from)), (ra 9, .inl (kI, 40, .inl q_to)), (ra 13, .inl (kI, 700, .inl q_tape))]) hP hD [3, 4, 2, 0, 1] rfl (by decide +kernel)
            have hP9 := hPD9.1
            have hD9 := hPD9.2
            exact W.vret hx hb hr (fun t ht hW => ⟨⟨(), rfl, trivial, y210, q_told, q_from, q_to, hq211, hq_told, hq_from, hq_to, (show (x0 2).toInt ≤ (y210 2).toInt from by omega), (show y210 3 = x0 3 from hq213.trans (hq199.trans (hq23.trans (hq10)))), (show ∀ j : Nat, (j : Int) < (q_told 1).toInt → (q_from j).toInt < (q_to j).toInt from hLT), (show ∀ j : Nat, (j : Int) < (q_told 5).toInt → (q_from (20 + j)).toInt < (q_to (20 + j)).toInt from hLD), (show RRd tT nN y210 (lnkS tT nN sS (q_told 4) (q_told 5) (shT 20 q_from) (shT 20 q_to)) from it_f (Q := RRd tT nN y210) c1 ((rr_stepN hrr222 c220))), (show y210 8 = 0 → q_told = upd q_told 5 (q_told 5 + 1) ∧ q_from = upd q_from ((20 + (q_told 5)).toNatClampNeg) (lnkA tT nN sS) ∧ q_to = upd q_to ((20 + (q_told 5)).toNatClampNeg) (lnkB tT nN sS (q_told 4) (q_told 5) (shT 20 q_from)) from fun w => absurd w c220), (show LowT q_told q_from q_to q_told q_from q_to from low_0), (show y210 1 = x0 1 from hq215.trans (hq201.trans (hq25.trans (hq13)))), (show y210 10 = x0 10 from hq216.trans (hq202.trans (hq26.trans (hq14)))), (show y210 21 = x0 21 from hq217.trans (hq203.trans (hq27.trans (hq15)))), (show y210 25 = x0 25 from hq218.trans (hq204.trans (hq28.trans (hq16)))), (show y210 23 = x0 23 from hq219.trans (hq205.trans (hq29.trans (hq17)))), by rw [ht]; exact hP9, hD9⟩, hS.F ht⟩) hS.2.2 dX11_readLink_103
          · have b223 : iv 0 0 (y210 8) := iv_eqL c220 ivk_0
            refine lv_iload_n hx hb dX11_readLink_77 rfl (lv_at hl 0 rfl) ?_
            refine lv_iload_n hx hb dX11_readLink_78 rfl (lv_at hl 1 rfl) ?_
            refine lv_icmp_le (tgt := 91) hx hb dX11_readLink_79 rfl (fun c224 => ?_) (fun c224 => ?_)
            · refine lv_aload_n hx hb dX11_readLink_91 rfl (lv_at hl 2 rfl) ?_
              refine lv_iconst (v := 5) hx hb dX11_readLink_92 ic_5 ?_
              obtain ⟨hPc, hDc, hFc, hJn⟩ := cl_a (wc := [(m0, .inr (11, oX11 ra y210))]) (wr := [(ra 9, .inl (kI, 40, .inl q_to)), (ra 13, .inl (kI, 700, .inl q_tape)), (ra 8, .inl (kI, 40, .inl q_from)), (ra 2, .inl (kI, 8, .inl q_told))]) hP hD hS hA [3] [0, 1, 2, 4] rfl rfl (by decide +kernel)
              refine va_callv (va_runV (As := [.int 5]) (rest := []) ⟨hx, hb, hml, hown, hts⟩ (s11_wrong l dC dI kB kI kJ kZ kC kS H.size m0 ra y210 5 tT nN (rouT tT (q_told 4) (lnk2 tT nN sS (q_told 4) (q_told 5) (shT 20 q_from))) (hq211) ((iv_w ivk_5 (by decide) (by decide))) (hq214)) (cwV 1 hts gX11_readLink_X11_wrong rfl rfl rfl (by decide +kernel) ⟨Nat.le_of_ble_eq_true rfl, Nat.le_of_ble_eq_true rfl⟩) ⟨fun a U g mk q => by obtain ⟨q0, q1, qP, qE, qD⟩ := q; exact ⟨q0, q1, qP, kE_call qE, qD⟩, va_recv hK hP (ci := 11) (q0 := 3) rfl rfl, fun U hU hW => ⟨rfl, by rw [hU], by rw [hU]; exact hPc, kE_warm hW hE, hDc.weaken (fun _ _ _ _ => trivial)⟩⟩ rfl rfl hl.1 rfl (lv_room (Nat.le_of_ble_eq_true rfl)) dX11_readLink_93 ⟨Nat.le_of_ble_eq_true rfl, Nat.le_of_ble_eq_true rfl⟩) hS (fun q _ h => hFc q h) hFc (fun u t H locs ht hvm w226 hB hz1 hk1 hS => ?_)
              obtain ⟨y227, hq228, hq229, hq230, hq231, hq232, hq233, hq234, hq235, hq236, hq237, hP1, hD1⟩ := hB
              try dsimp only at w226
              obtain ⟨hPa, hDa⟩ := hJn (w1 := [(m0, .inr (11, oX11 ra y227))]) hk1 ht hP1 hD1
              clear hP hD hPc hDc hFc hJn hP1 hD1 hk1
              have hP : va_P (dC, dI) vwCl [(ra 9, .inl (kI, 40, .inl q_to)), (ra 13, .inl (kI, 700, .inl q_tape)), (ra 8, .inl (kI, 40, .inl q_from)), (ra 2, .inl (kI, 8, .inl q_told)), (m0, .inr (11, oX11 ra y227))] H := hPa
              have hD : va_D A [(ra 9, .inl (kI, 40, .inl q_to)), (ra 13, .inl (kI, 700, .inl q_tape)), (ra 8, .inl (kI, 40, .inl q_from)), (ra 2, .inl (kI, 8, .inl q_told)), (m0, .inr (11, oX11 ra y227))] := hDa
              clear hPa hDa
              refine W.widen (k := 0) (n := 0) (Nat.le_of_ble_eq_true rfl) (Nat.le_of_ble_eq_true rfl) ?_
              have hok9 := rr_ok hq214 c220
              have hb9 := hv8 hok9
              have ha9 := hv9 (ok_ite (ok_next (ok_num (ok_rou hok9)))).1
              have hrr238 : RRd tT nN y227 (iteT (lnkB tT nN sS (q_told 4) (q_told 5) (shT 20 q_from) ≤ lnkA tT nN sS ∨ hasT (shT 20 q_from) (shT 20 q_to) (q_told 5) (lnkA tT nN sS) (lnkB tT nN sS (q_told 4) (q_told 5) (shT 20 q_from))) (failT 5 (lnk3 tT nN sS (q_told 4) (q_told 5) (shT 20 q_from))) (lnk3 tT nN sS (q_told 4) (q_told 5) (shT 20 q_from))) := it_t (Q := RRd tT nN y227) (Or.inl (by have q := c224; rw [ha9, hb9] at q; exact q)) (hq232)
              refine lv_aload_n hx hb dX11_readLink_96 rfl (lv_at hl 2 rfl) ?_
              refine va_get (D := (dC, dI)) (ci := 11) (v := .int (y227 8)) (C := RX11) (T := TX11) (N := 61) hx hb hts hin11 hown hK hP 4 rfl rfl 22 (Nat.le_of_ble_eq_true rfl) hw_1 (fun _ h9 => h9) rfl dX11_readLink_97 ?_
              refine lv_if_eq (tgt := 104) hx hb dX11_readLink_100 rfl (fun c9 => absurd c9 (iv_ne hq229 ivk_0 (by decide))) (fun _ => ?_)
              have hPD9 := cl_s (wc := [(m0, .inr (11, oX11 ra y227)), (ra 2, .inl (kI, 8, .inl q_told)), (ra 8, .inl (kI, 40, .inl q_from)), (ra 9, .inl (kI, 40, .inl q_to)), (ra 13, .inl (kI, 700, .inl q_tape))]) hP hD [4, 3, 2, 0, 1] rfl (by decide +kernel)
              have hP9 := hPD9.1
              have hD9 := hPD9.2
              exact W.vret hx hb hr (fun t ht hW => ⟨⟨(), rfl, trivial, y227, q_told, q_from, q_to, hq228, hq_told, hq_from, hq_to, (show (x0 2).toInt ≤ (y227 2).toInt from by omega), (show y227 3 = x0 3 from hq231.trans (hq213.trans (hq199.trans (hq23.trans (hq10))))), (show ∀ j : Nat, (j : Int) < (q_told 1).toInt → (q_from j).toInt < (q_to j).toInt from hLT), (show ∀ j : Nat, (j : Int) < (q_told 5).toInt → (q_from (20 + j)).toInt < (q_to (20 + j)).toInt from hLD), (show RRd tT nN y227 (lnkS tT nN sS (q_told 4) (q_told 5) (shT 20 q_from) (shT 20 q_to)) from it_f (Q := RRd tT nN y227) c1 ((rr_stepN hrr238 (iv_ne hq229 ivk_0 (by decide))))), (show y227 8 = 0 → q_told = upd q_told 5 (q_told 5 + 1) ∧ q_from = upd q_from ((20 + (q_told 5)).toNatClampNeg) (lnkA tT nN sS) ∧ q_to = upd q_to ((20 + (q_told 5)).toNatClampNeg) (lnkB tT nN sS (q_told 4) (q_told 5) (shT 20 q_from)) from fun w => absurd w (iv_ne hq229 ivk_0 (by decide))), (show LowT q_told q_from q_to q_told q_from q_to from low_0), (show y227 1 = x0 1 from hq233.trans (hq215.trans (hq201.trans (hq25.trans (hq13))))), (show y227 10 = x0 10 from hq234.trans (hq216.trans (hq202.trans (hq26.trans (hq14))))), (show y227 21 = x0 21 from hq235.trans (hq217.trans (hq203.trans (hq27.trans (hq15))))), (show y227 25 = x0 25 from hq236.trans (hq218.trans (hq204.trans (hq28.trans (hq16))))), (show y227 23 = x0 23 from hq237.trans (hq219.trans (hq205.trans (hq29.trans (hq17))))), by rw [ht]; exact hP9, hD9⟩, hS.F ht⟩) hS.2.2 dX11_readLink_103
            · have b239 : iv 0 10 r18 := iv_ltL (Int32.not_le.mp c224) w19.1 w209.1 (by decide) (by decide)
              have b240 : iv 1 11 r208 := iv_ltR (Int32.not_le.mp c224) w19.1 w209.1 (by decide) (by decide)
              refine lv_aload_n hx hb dX11_readLink_82 rfl (lv_at hl 2 rfl) ?_
              refine lv_iload_n hx hb dX11_readLink_83 rfl (lv_at hl 1 rfl) ?_
              refine lv_iload_n hx hb dX11_readLink_84 rfl (lv_at hl 0 rfl) ?_
              obtain ⟨hPc, hDc, hFc, hJn⟩ := cl_a (wc := [(m0, .inr (11, oX11 ra y210)), (ra 2, .inl (kI, 8, .inl q_told)), (ra 8, .inl (kI, 40, .inl q_from)), (ra 9, .inl (kI, 40, .inl q_to))]) (wr := [(ra 13, .inl (kI, 700, .inl q_tape))]) hP hD hS hA [3, 4, 2, 0] [1] rfl rfl (by decide +kernel)
              refine va_calli (va_runV (As := [.int r18, .int r208]) (rest := []) ⟨hx, hb, hml, hown, hts⟩ (s11_hasLink l dC dI kB kI kJ kZ kC kS H.size m0 ra y210 q_told q_from q_to r18 r208 (hq211) (hq_told) (hq_from) (hq_to)) (cwV 2 hts gX11_readLink_X11_hasLink rfl rfl rfl (by decide +kernel) ⟨Nat.le_of_ble_eq_true rfl, Nat.le_of_ble_eq_true rfl⟩) ⟨fun a U g mk q => by obtain ⟨q0, q1, qP, qE, qD⟩ := q; exact ⟨q0, q1, qP, kE_call qE, qD⟩, va_recv hK hP (ci := 11) (q0 := 3) rfl rfl, fun U hU hW => ⟨rfl, by rw [hU], by rw [hU]; exact hPc, kE_warm hW hE, hDc.weaken (fun _ _ _ _ => trivial)⟩⟩ rfl rfl hl.1 rfl (lv_room (Nat.le_of_ble_eq_true rfl)) dX11_readLink_85 ⟨Nat.le_of_ble_eq_true rfl, Nat.le_of_ble_eq_true rfl⟩) hS (fun q _ h => hFc q h) hFc (fun r241 u t H locs ht hvm w242 hB hz1 hk1 hS => ?_)
              obtain ⟨hP1, hD1⟩ := hB
              try dsimp only at w242
              obtain ⟨hPa, hDa⟩ := hJn (w1 := [(m0, .inr (11, oX11 ra y210)), (ra 2, .inl (kI, 8, .inl q_told)), (ra 8, .inl (kI, 40, .inl q_from)), (ra 9, .inl (kI, 40, .inl q_to))]) hk1 ht hP1 hD1
              clear hP hD hPc hDc hFc hJn hP1 hD1 hk1
              have hP : va_P (dC, dI) vwCl [(ra 13, .inl (kI, 700, .inl q_tape)), (m0, .inr (11, oX11 ra y210)), (ra 2, .inl (kI, 8, .inl q_told)), (ra 8, .inl (kI, 40, .inl q_from)), (ra 9, .inl (kI, 40, .inl q_to))] H := hPa
              have hD : va_D A [(ra 13, .inl (kI, 700, .inl q_tape)), (m0, .inr (11, oX11 ra y210)), (ra 2, .inl (kI, 8, .inl q_told)), (ra 8, .inl (kI, 40, .inl q_from)), (ra 9, .inl (kI, 40, .inl q_to))] := hDa
              clear hPa hDa
              refine W.widen (k := 0) (n := 0) (Nat.le_of_ble_eq_true rfl) (Nat.le_of_ble_eq_true rfl) ?_
              have hh9 := w242.2
              refine lv_if_eq (tgt := 96) hx hb dX11_readLink_88 rfl (fun c243 => ?_) (fun c243 => ?_)
              · have b244 : iv 0 0 r241 := iv_eqL c243 ivk_0
                have hok9 := rr_ok hq214 c220
                have hb9 := hv8 hok9
                have ha9 := hv9 (ok_ite (ok_next (ok_num (ok_rou hok9)))).1
                have hrr245 : RRd tT nN y210 (iteT (lnkB tT nN sS (q_told 4) (q_told 5) (shT 20 q_from) ≤ lnkA tT nN sS ∨ hasT (shT 20 q_from) (shT 20 q_to) (q_told 5) (lnkA tT nN sS) (lnkB tT nN sS (q_told 4) (q_told 5) (shT 20 q_from))) (failT 5 (lnk3 tT nN sS (q_told 4) (q_told 5) (shT 20 q_from))) (lnk3 tT nN sS (q_told 4) (q_told 5) (shT 20 q_from))) := it_f (Q := RRd tT nN y210) (by have q := (hh9.resolve_right (fun w => w.1 c243)).2; have q2 := Int32.not_le.mpr (Int32.not_le.mp c224); rw [ha9, hb9] at q q2; exact fun w => w.elim q2 q) (hq214)
                refine lv_aload_n hx hb dX11_readLink_96 rfl (lv_at hl 2 rfl) ?_
                refine va_get (D := (dC, dI)) (ci := 11) (v := .int (y210 8)) (C := RX11) (T := TX11) (N := 61) hx hb hts hin11 hown hK hP 1 rfl rfl 22 (Nat.le_of_ble_eq_true rfl) hw_1 (fun _ h9 => h9) rfl dX11_readLink_97 ?_
                refine lv_if_eq (tgt := 104) hx hb dX11_readLink_100 rfl (fun _ => ?_) (fun c9 => absurd (c220) c9)
                refine lv_aload_n hx hb dX11_readLink_104 rfl (lv_at hl 2 rfl) ?_
                obtain ⟨hPc, hDc, hFc, hJn⟩ := cl_a (wc := [(m0, .inr (11, oX11 ra y210)), (ra 13, .inl (kI, 700, .inl q_tape))]) (wr := [(ra 2, .inl (kI, 8, .inl q_told)), (ra 8, .inl (kI, 40, .inl q_from)), (ra 9, .inl (kI, 40, .inl q_to))]) hP hD hS hA [1, 0] [2, 3, 4] rfl rfl (by decide +kernel)
                refine va_callv (va_runV (As := []) (rest := []) ⟨hx, hb, hml, hown, hts⟩ (s11_stepOn l dC dI kB kI kJ kZ kC kS H.size m0 ra y210 q_tape tT nN (nextT tT nN (iteT (lnkB tT nN sS (q_told 4) (q_told 5) (shT 20 q_from) ≤ lnkA tT nN sS ∨ hasT (shT 20 q_from) (shT 20 q_to) (q_told 5) (lnkA tT nN sS) (lnkB tT nN sS (q_told 4) (q_told 5) (shT 20 q_from))) (failT 5 (lnk3 tT nN sS (q_told 4) (q_told 5) (shT 20 q_from))) (lnk3 tT nN sS (q_told 4) (q_told 5) (shT 20 q_from)))) (hq211) (hq_tape) (hrr245.2) (stp_of hrr245) (hTQ)) (cwV 0 hts gX11_readLink_X11_stepOn rfl rfl rfl (by decide +kernel) ⟨Nat.le_of_ble_eq_true rfl, Nat.le_of_ble_eq_true rfl⟩) ⟨fun a U g mk q => by obtain ⟨q0, q1, qP, qE, qD⟩ := q; exact ⟨q0, q1, qP, kE_call qE, qD⟩, va_recv hK hP (ci := 11) (q0 := 1) rfl rfl, fun U hU hW => ⟨rfl, by rw [hU], by rw [hU]; exact hPc, kE_warm hW hE, hDc.weaken (fun _ _ _ _ => trivial)⟩⟩ rfl rfl hl.1 rfl (lv_room (Nat.le_of_ble_eq_true rfl)) dX11_readLink_105 ⟨Nat.le_of_ble_eq_true rfl, Nat.le_of_ble_eq_true rfl⟩) hS (fun q _ h => hFc q h) hFc (fun u t H locs ht hvm w247 hB hz1 hk1 hS => ?_)
                obtain ⟨y248, hq249, hq250, hq251, hq252, hq253, hq254, hq255, hq256, hq257, hq258, hP1, hD1⟩ := hB
                try dsimp only at w247
                obtain ⟨hPa, hDa⟩ := hJn (w1 := [(m0, .inr (11, oX11 ra y248)), (ra 13, .inl (kI, 700, .inl q_tape))]) hk1 ht hP1 hD1
                clear hP hD hPc hDc hFc hJn hP1 hD1 hk1
                have hP : va_P (dC, dI) vwCl [(ra 2, .inl (kI, 8, .inl q_told)), (ra 8, .inl (kI, 40, .inl q_from)), (ra 9, .inl (kI, 40, .inl q_to)), (m0, .inr (11, oX11 ra y248)), (ra 13, .inl (kI, 700, .inl q_tape))] H := hPa
                have hD : va_D A [(ra 2, .inl (kI, 8, .inl q_told)), (ra 8, .inl (kI, 40, .inl q_from)), (ra 9, .inl (kI, 40, .inl q_to)), (m0, .inr (11, oX11 ra y248)), (ra 13, .inl (kI, 700, .inl q_tape))] := hDa
                clear hPa hDa
                refine W.widen (k := 0) (n := 0) (Nat.le_of_ble_eq_true rfl) (Nat.le_of_ble_eq_true rfl) ?_
                refine lv_aload_n hx hb dX11_readLink_108 rfl (lv_at hl 2 rfl) ?_
                refine va_get (D := (dC, dI)) (ci := 11) (v := .ref (ra 8)) (C := RX11) (T := TX11) (N := 61) hx hb hts hin11 hown hK hP 3 rfl rfl 9 (Nat.le_of_ble_eq_true rfl) hw_2 (fun _ h9 => h9) rfl dX11_readLink_109 ?_
                refine lv_bipush (v := 20) hx hb dX11_readLink_112 bp_20 ?_
                refine lv_aload_n hx hb dX11_readLink_114 rfl (lv_at hl 2 rfl) ?_
                refine va_get (D := (dC, dI)) (ci := 11) (v := .ref (ra 2)) (C := RX11) (T := TX11) (N := 61) hx hb hts hin11 hown hK hP 3 rfl rfl 3 (Nat.le_of_ble_eq_true rfl) hw_0 (fun _ h9 => h9) rfl dX11_readLink_115 ?_
                refine lv_iconst (v := 5) hx hb dX11_readLink_118 ic_5 ?_
                refine va_iald hx hb hK hP 0 1 rfl rfl (vp_in_nI (n := 5) (by decide) (by decide)) dX11_readLink_119 ?_
                refine W.eq (g2 := F0 m 120 ls [.int (q_told 5), .int 20, .ref (ra 8)]) rfl ?_
                refine lv_iadd hx hb dX11_readLink_120 ?_
                have b259 : iv 20 39 (20 + (q_told 5)) := iv_add ivk_20 b2 (by decide) (by decide) (by decide) (by decide)
                refine lv_iload_n hx hb dX11_readLink_121 rfl (lv_at hl 1 rfl) ?_
                refine va_iast hx hb hK hP hD hS 1 1 rfl rfl (iv_in b259 (by decide) (by decide)) dX11_readLink_122 (fun H locs hPa hDa hS => ?_)
                clear hP hD
                have hP : va_P (dC, dI) vwCl [(ra 2, .inl (kI, 8, .inl q_told)), (ra 8, .inl (kI, 40, .inl (upd q_from (20 + (q_told 5)).toNatClampNeg r18))), (ra 9, .inl (kI, 40, .inl q_to)), (m0, .inr (11, oX11 ra y248)), (ra 13, .inl (kI, 700, .inl q_tape))] H := hPa
                have hD : va_D A [(ra 2, .inl (kI, 8, .inl q_told)), (ra 8, .inl (kI, 40, .inl (upd q_from (20 + (q_told 5)).toNatClampNeg r18))), (ra 9, .inl (kI, 40, .inl q_to)), (m0, .inr (11, oX11 ra y248)), (ra 13, .inl (kI, 700, .inl q_tape))] := hDa
                clear hPa hDa
                refine lv_aload_n hx hb dX11_readLink_123 rfl (lv_at hl 2 rfl) ?_
                refine va_get (D := (dC, dI)) (ci := 11) (v := .ref (ra 9)) (C := RX11) (T := TX11) (N := 61) hx hb hts hin11 hown hK hP 3 rfl rfl 10 (Nat.le_of_ble_eq_true rfl) hw_3 (fun _ h9 => h9) rfl dX11_readLink_124 ?_
                refine lv_bipush (v := 20) hx hb dX11_readLink_127 bp_20 ?_
                refine lv_aload_n hx hb dX11_readLink_129 rfl (lv_at hl 2 rfl) ?_
                refine va_get (D := (dC, dI)) (ci := 11) (v := .ref (ra 2)) (C := RX11) (T := TX11) (N := 61) hx hb hts hin11 hown hK hP 3 rfl rfl 3 (Nat.le_of_ble_eq_true rfl) hw_0 (fun _ h9 => h9) rfl dX11_readLink_130 ?_
                refine lv_iconst (v := 5) hx hb dX11_readLink_133 ic_5 ?_
                refine va_iald hx hb hK hP 0 1 rfl rfl (vp_in_nI (n := 5) (by decide) (by decide)) dX11_readLink_134 ?_
                refine W.eq (g2 := F0 m 135 ls [.int (q_told 5), .int 20, .ref (ra 9)]) rfl ?_
                refine lv_iadd hx hb dX11_readLink_135 ?_
                have b260 : iv 20 39 (20 + (q_told 5)) := iv_add ivk_20 b2 (by decide) (by decide) (by decide) (by decide)
                refine lv_iload_n hx hb dX11_readLink_136 rfl (lv_at hl 0 rfl) ?_
                refine va_iast hx hb hK hP hD hS 2 1 rfl rfl (iv_in b260 (by decide) (by decide)) dX11_readLink_137 (fun H locs hPa hDa hS => ?_)
                clear hP hD
                have hP : va_P (dC, dI) vwCl [(ra 2, .inl (kI, 8, .inl q_told)), (ra 8, .inl (kI, 40, .inl (upd q_from (20 + (q_told 5)).toNatClampNeg r18))), (ra 9, .inl (kI, 40, .inl (upd q_to (20 + (q_told 5)).toNatClampNeg r208))), (m0, .inr (11, oX11 ra y248)), (ra 13, .inl (kI, 700, .inl q_tape))] H := hPa
                have hD : va_D A [(ra 2, .inl (kI, 8, .inl q_told)), (ra 8, .inl (kI, 40, .inl (upd q_from (20 + (q_told 5)).toNatClampNeg r18))), (ra 9, .inl (kI, 40, .inl (upd q_to (20 + (q_told 5)).toNatClampNeg r208))), (m0, .inr (11, oX11 ra y248)), (ra 13, .inl (kI, 700, .inl q_tape))] := hDa
                clear hPa hDa
                refine lv_aload_n hx hb dX11_readLink_138 rfl (lv_at hl 2 rfl) ?_
                refine va_get (D := (dC, dI)) (ci := 11) (v := .ref (ra 2)) (C := RX11) (T := TX11) (N := 61) hx hb hts hin11 hown hK hP 3 rfl rfl 3 (Nat.le_of_ble_eq_true rfl) hw_0 (fun _ h9 => h9) rfl dX11_readLink_139 ?_
                refine lv_iconst (v := 5) hx hb dX11_readLink_142 ic_5 ?_
                refine lv_dup2_11 hx hb dX11_readLink_143 rfl rfl ?_
                refine va_iald hx hb hK hP 0 1 rfl rfl (vp_in_nI (n := 5) (by decide) (by decide)) dX11_readLink_144 ?_
                refine W.eq (g2 := F0 m 145 ls [.int (q_told 5), .int 5, .ref (ra 2)]) rfl ?_
                refine lv_iconst (v := 1) hx hb dX11_readLink_145 ic_1 ?_
                refine lv_iadd hx hb dX11_readLink_146 ?_
                have b261 : iv 1 20 ((q_told 5) + 1) := iv_add b2 ivk_1 (by decide) (by decide) (by decide) (by decide)
                refine va_iast hx hb hK hP hD hS 0 1 rfl rfl (vp_in_nI (n := 5) (by decide) (by decide)) dX11_readLink_147 (fun H locs hPa hDa hS => ?_)
                clear hP hD
                have hP : va_P (dC, dI) vwCl [(ra 2, .inl (kI, 8, .inl (upd q_told 5 ((q_told 5) + 1)))), (ra 8, .inl (kI, 40, .inl (upd q_from (20 + (q_told 5)).toNatClampNeg r18))), (ra 9, .inl (kI, 40, .inl (upd q_to (20 + (q_told 5)).toNatClampNeg r208))), (m0, .inr (11, oX11 ra y248)), (ra 13, .inl (kI, 700, .inl q_tape))] H := hPa
                have hD : va_D A [(ra 2, .inl (kI, 8, .inl (upd q_told 5 ((q_told 5) + 1)))), (ra 8, .inl (kI, 40, .inl (upd q_from (20 + (q_told 5)).toNatClampNeg r18))), (ra 9, .inl (kI, 40, .inl (upd q_to (20 + (q_told 5)).toNatClampNeg r208))), (m0, .inr (11, oX11 ra y248)), (ra 13, .inl (kI, 700, .inl q_tape))] := hDa
                clear hPa hDa
                have hPD9 := cl_s (wc := [(m0, .inr (11, oX11 ra y248)), (ra 2, .inl (kI, 8, .inl (upd q_told 5 ((q_told 5) + 1)))), (ra 8, .inl (kI, 40, .inl (upd q_from (20 + (q_told 5)).toNatClampNeg r18))), (ra 9, .inl (kI, 40, .inl (upd q_to (20 + (q_told 5)).toNatClampNeg r208))), (ra 13, .inl (kI, 700, .inl q_tape))]) hP hD [3, 0, 1, 2, 4] rfl (by decide +kernel)
                have hP9 := hPD9.1
                have hD9 := hPD9.2
                exact W.vret hx hb hr (fun t ht hW => ⟨⟨(), rfl, trivial, y248, upd q_told 5 ((q_told 5) + 1), upd q_from (20 + (q_told 5)).toNatClampNeg r18, upd q_to (20 + (q_told 5)).toNatClampNeg r208, hq249, (fI_u hq_told (k := 5) ((iv_w b261 (by decide) (by decide)))), (fI_u hq_from (k := (20 + (q_told 5)).toNatClampNeg) ((iv_w b239 (by decide) (by decide)))), (fI_u hq_to (k := (20 + (q_told 5)).toNatClampNeg) ((iv_w b240 (by decide) (by decide)))), (show (x0 2).toInt ≤ (y248 2).toInt from by omega), (show y248 3 = x0 3 from hq251.trans (hq213.trans (hq199.trans (hq23.trans (hq10))))), lk_lt hLT (hq_told 1) (hq_told 5), lk_ld hLD b2 (Int32.not_le.mp c224), (show RRd tT nN y248 (lnkS tT nN sS (q_told 4) (q_told 5) (shT 20 q_from) (shT 20 q_to)) from it_f (Q := RRd tT nN y248) c1 (hq253)), fun _ => ⟨rfl, congrArg (upd q_from ((20 + (q_told 5)).toNatClampNeg)) (hv9 (ok_ite (ok_next (ok_num (ok_rou (ok_ite (rr_ok hrr245 c220)).1)))).1), congrArg (upd q_to ((20 + (q_told 5)).toNatClampNeg)) (hv8 (ok_ite (rr_ok hrr245 c220)).1)⟩, low_l (by decide) (iv_w b2 (by decide) (by decide)), (show y248 1 = x0 1 from hq254.trans (hq215.trans (hq201.trans (hq25.trans (hq13))))), (show y248 10 = x0 10 from hq255.trans (hq216.trans (hq202.trans (hq26.trans (hq14))))), (show y248 21 = x0 21 from hq256.trans (hq217.trans (hq203.trans (hq27.trans (hq15))))), (show y248 25 = x0 25 from hq257.trans (hq218.trans (hq204.trans (hq28.trans (hq16))))), (show y248 23 = x0 23 from hq258.trans (hq219.trans (hq205.trans (hq29.trans (hq17))))), by rw [ht]; exact hP9, hD9⟩, hS.F ht⟩) hS.2.2 dX11_readLink_148
              · have b262 : iv 1 1 r241 := iv_neLo c243 w242.1 ivk_0 (by decide) (by decide)
                refine lv_aload_n hx hb dX11_readLink_91 rfl (lv_at hl 2 rfl) ?_
                refine lv_iconst (v := 5) hx hb dX11_readLink_92 ic_5 ?_
                obtain ⟨hPc, hDc, hFc, hJn⟩ := cl_a (wc := [(m0, .inr (11, oX11 ra y210))]) (wr := [(ra 13, .inl (kI, 700, .inl q_tape)), (ra 2, .inl (kI, 8, .inl q_told)), (ra 8, .inl (kI, 40, .inl q_from)), (ra 9, .inl (kI, 40, .inl q_to))]) hP hD hS hA [1] [0, 2, 3, 4] rfl rfl (by decide +kernel)
                refine va_callv (va_runV (As := [.int 5]) (rest := []) ⟨hx, hb, hml, hown, hts⟩ (s11_wrong l dC dI kB kI kJ kZ kC kS H.size m0 ra y210 5 tT nN (rouT tT (q_told 4) (lnk2 tT nN sS (q_told 4) (q_told 5) (shT 20 q_from))) (hq211) ((iv_w ivk_5 (by decide) (by decide))) (hq214)) (cwV 1 hts gX11_readLink_X11_wrong rfl rfl rfl (by decide +kernel) ⟨Nat.le_of_ble_eq_true rfl, Nat.le_of_ble_eq_true rfl⟩) ⟨fun a U g mk q => by obtain ⟨q0, q1, qP, qE, qD⟩ := q; exact ⟨q0, q1, qP, kE_call qE, qD⟩, va_recv hK hP (ci := 11) (q0 := 1) rfl rfl, fun U hU hW => ⟨rfl, by rw [hU], by rw [hU]; exact hPc, kE_warm hW hE, hDc.weaken (fun _ _ _ _ => trivial)⟩⟩ rfl rfl hl.1 rfl (lv_room (Nat.le_of_ble_eq_true rfl)) dX11_readLink_93 ⟨Nat.le_of_ble_eq_true rfl, Nat.le_of_ble_eq_true rfl⟩) hS (fun q _ h => hFc q h) hFc (fun u t H locs ht hvm w264 hB hz1 hk1 hS => ?_)
                obtain ⟨y265, hq266, hq267, hq268, hq269, hq270, hq271, hq272, hq273, hq274, hq275, hP1, hD1⟩ := hB
                try dsimp only at w264
                obtain ⟨hPa, hDa⟩ := hJn (w1 := [(m0, .inr (11, oX11 ra y265))]) hk1 ht hP1 hD1
                clear hP hD hPc hDc hFc hJn hP1 hD1 hk1
                have hP : va_P (dC, dI) vwCl [(ra 13, .inl (kI, 700, .inl q_tape)), (ra 2, .inl (kI, 8, .inl q_told)), (ra 8, .inl (kI, 40, .inl q_from)), (ra 9, .inl (kI, 40, .inl q_to)), (m0, .inr (11, oX11 ra y265))] H := hPa
                have hD : va_D A [(ra 13, .inl (kI, 700, .inl q_tape)), (ra 2, .inl (kI, 8, .inl q_told)), (ra 8, .inl (kI, 40, .inl q_from)), (ra 9, .inl (kI, 40, .inl q_to)), (m0, .inr (11, oX11 ra y265))] := hDa
                clear hPa hDa
                refine W.widen (k := 0) (n := 0) (Nat.le_of_ble_eq_true rfl) (Nat.le_of_ble_eq_true rfl) ?_
                have hok9 := rr_ok hq214 c220
                have hb9 := hv8 hok9
                have ha9 := hv9 (ok_ite (ok_next (ok_num (ok_rou hok9)))).1
                have hrr276 : RRd tT nN y265 (iteT (lnkB tT nN sS (q_told 4) (q_told 5) (shT 20 q_from) ≤ lnkA tT nN sS ∨ hasT (shT 20 q_from) (shT 20 q_to) (q_told 5) (lnkA tT nN sS) (lnkB tT nN sS (q_told 4) (q_told 5) (shT 20 q_from))) (failT 5 (lnk3 tT nN sS (q_told 4) (q_told 5) (shT 20 q_from))) (lnk3 tT nN sS (q_told 4) (q_told 5) (shT 20 q_from))) := it_t (Q := RRd tT nN y265) (Or.inr (by have q := (hh9.resolve_left (fun w => c243 w.1)).2; rw [ha9, hb9] at q; exact q)) (hq270)
                refine lv_aload_n hx hb dX11_readLink_96 rfl (lv_at hl 2 rfl) ?_
                refine va_get (D := (dC, dI)) (ci := 11) (v := .int (y265 8)) (C := RX11) (T := TX11) (N := 61) hx hb hts hin11 hown hK hP 4 rfl rfl 22 (Nat.le_of_ble_eq_true rfl) hw_1 (fun _ h9 => h9) rfl dX11_readLink_97 ?_
                refine lv_if_eq (tgt := 104) hx hb dX11_readLink_100 rfl (fun c9 => absurd c9 (iv_ne hq267 ivk_0 (by decide))) (fun _ => ?_)
                have hPD9 := cl_s (wc := [(m0, .inr (11, oX11 ra y265)), (ra 2, .inl (kI, 8, .inl q_told)), (ra 8, .inl (kI, 40, .inl q_from)), (ra 9, .inl (kI, 40, .inl q_to)), (ra 13, .inl (kI, 700, .inl q_tape))]) hP hD [4, 1, 2, 3, 0] rfl (by decide +kernel)
                have hP9 := hPD9.1
                have hD9 := hPD9.2
                exact W.vret hx hb hr (fun t ht hW => ⟨⟨(), rfl, trivial, y265, q_told, q_from, q_to, hq266, hq_told, hq_from, hq_to, (show (x0 2).toInt ≤ (y265 2).toInt from by omega), (show y265 3 = x0 3 from hq269.trans (hq213.trans (hq199.trans (hq23.trans (hq10))))), (show ∀ j : Nat, (j : Int) < (q_told 1).toInt → (q_from j).toInt < (q_to j).toInt from hLT), (show ∀ j : Nat, (j : Int) < (q_told 5).toInt → (q_from (20 + j)).toInt < (q_to (20 + j)).toInt from hLD), (show RRd tT nN y265 (lnkS tT nN sS (q_told 4) (q_told 5) (shT 20 q_from) (shT 20 q_to)) from it_f (Q := RRd tT nN y265) c1 ((rr_stepN hrr276 (iv_ne hq267 ivk_0 (by decide))))), (show y265 8 = 0 → q_told = upd q_told 5 (q_told 5 + 1) ∧ q_from = upd q_from ((20 + (q_told 5)).toNatClampNeg) (lnkA tT nN sS) ∧ q_to = upd q_to ((20 + (q_told 5)).toNatClampNeg) (lnkB tT nN sS (q_told 4) (q_told 5) (shT 20 q_from)) from fun w => absurd w (iv_ne hq267 ivk_0 (by decide))), (show LowT q_told q_from q_to q_told q_from q_to from low_0), (show y265 1 = x0 1 from hq271.trans (hq215.trans (hq201.trans (hq25.trans (hq13))))), (show y265 10 = x0 10 from hq272.trans (hq216.trans (hq202.trans (hq26.trans (hq14))))), (show y265 21 = x0 21 from hq273.trans (hq217.trans (hq203.trans (hq27.trans (hq15))))), (show y265 25 = x0 25 from hq274.trans (hq218.trans (hq204.trans (hq28.trans (hq16))))), (show y265 23 = x0 23 from hq275.trans (hq219.trans (hq205.trans (hq29.trans (hq17))))), by rw [ht]; exact hP9, hD9⟩, hS.F ht⟩) hS.2.2 dX11_readLink_103
    · have b277 : iv 1 5 (x0 8) := iv_neLo c3 (hX 8 : iv 0 5 (x0 8)) ivk_0 (by decide) (by decide)
      have hP9 := hP
      have hD9 := hD
      exact W.vret hx hb hr (fun t ht hW => ⟨⟨(), rfl, trivial, x0, q_told, q_from, q_to, hX, hq_told, hq_from, hq_to, (show (x0 2).toInt ≤ (x0 2).toInt from by omega), (show x0 3 = x0 3 from rfl), (show ∀ j : Nat, (j : Int) < (q_told 1).toInt → (q_from j).toInt < (q_to j).toInt from hLT), (show ∀ j : Nat, (j : Int) < (q_told 5).toInt → (q_from (20 + j)).toInt < (q_to (20 + j)).toInt from hLD), (show RRd tT nN x0 (lnkS tT nN sS (q_told 4) (q_told 5) (shT 20 q_from) (shT 20 q_to)) from (lk_in hRr c3) ▸ hRr), (show x0 8 = 0 → q_told = upd q_told 5 (q_told 5 + 1) ∧ q_from = upd q_from ((20 + (q_told 5)).toNatClampNeg) (lnkA tT nN sS) ∧ q_to = upd q_to ((20 + (q_told 5)).toNatClampNeg) (lnkB tT nN sS (q_told 4) (q_told 5) (shT 20 q_from)) from fun w => absurd w c3), (show LowT q_told q_from q_to q_told q_from q_to from low_0), (show x0 1 = x0 1 from rfl), (show x0 10 = x0 10 from rfl), (show x0 21 = x0 21 from rfl), (show x0 25 = x0 25 from rfl), (show x0 23 = x0 23 from rfl), by rw [ht]; exact hP9, hD9⟩, hS.F ht⟩) hS.2.2 dX11_readLink_23
  · have b278 : iv 20 20 (q_told 5) := iv_eqL c1 ivk_20
    refine lv_aload_n hx hb dX11_readLink_11 rfl (lv_at hl 0 rfl) ?_
    refine lv_iconst (v := 2) hx hb dX11_readLink_12 ic_2 ?_
    obtain ⟨hPc, hDc, hFc, hJn⟩ := cl_a (wc := [(m0, .inr (11, oX11 ra x0))]) (wr := [(ra 2, .inl (kI, 8, .inl q_told)), (ra 8, .inl (kI, 40, .inl q_from)), (ra 9, .inl (kI, 40, .inl q_to)), (ra 13, .inl (kI, 700, .inl q_tape))]) hP hD hS hA [0] [1, 2, 3, 4] rfl rfl (by decide +kernel)
    refine va_callv (va_runV (As := [.int 2]) (rest := []) ⟨hx, hb, hml, hown, hts⟩ (s11_wrong l dC dI kB kI kJ kZ kC kS s.heap.size m0 ra x0 2 tT nN sS (hX) ((iv_w ivk_2 (by decide) (by decide))) (hRr)) (cwV 1 hts gX11_readLink_X11_wrong rfl rfl rfl (by decide +kernel) ⟨Nat.le_of_ble_eq_true rfl, Nat.le_of_ble_eq_true rfl⟩) ⟨fun a U g mk q => by obtain ⟨q0, q1, qP, qE, qD⟩ := q; exact ⟨q0, q1, qP, kE_call qE, qD⟩, va_recv hK hP (ci := 11) (q0 := 0) rfl rfl, fun U hU hW => ⟨rfl, by rw [hU], by rw [hU]; exact hPc, kE_warm hW hE, hDc.weaken (fun _ _ _ _ => trivial)⟩⟩ rfl rfl hl.1 rfl (lv_room (Nat.le_of_ble_eq_true rfl)) dX11_readLink_13 ⟨Nat.le_of_ble_eq_true rfl, Nat.le_of_ble_eq_true rfl⟩) hS (fun q _ h => hFc q h) hFc (fun u t H locs ht hvm w280 hB hz1 hk1 hS => ?_)
    obtain ⟨y281, hq282, hq283, hq284, hq285, hq286, hq287, hq288, hq289, hq290, hq291, hP1, hD1⟩ := hB
    try dsimp only at w280
    obtain ⟨hPa, hDa⟩ := hJn (w1 := [(m0, .inr (11, oX11 ra y281))]) hk1 ht hP1 hD1
    clear hP hD hPc hDc hFc hJn hP1 hD1 hk1
    have hP : va_P (dC, dI) vwCl [(ra 2, .inl (kI, 8, .inl q_told)), (ra 8, .inl (kI, 40, .inl q_from)), (ra 9, .inl (kI, 40, .inl q_to)), (ra 13, .inl (kI, 700, .inl q_tape)), (m0, .inr (11, oX11 ra y281))] H := hPa
    have hD : va_D A [(ra 2, .inl (kI, 8, .inl q_told)), (ra 8, .inl (kI, 40, .inl q_from)), (ra 9, .inl (kI, 40, .inl q_to)), (ra 13, .inl (kI, 700, .inl q_tape)), (m0, .inr (11, oX11 ra y281))] := hDa
    clear hPa hDa
    refine W.widen (k := 0) (n := 0) (Nat.le_of_ble_eq_true rfl) (Nat.le_of_ble_eq_true rfl) ?_
    refine lv_aload_n hx hb dX11_readLink_16 rfl (lv_at hl 0 rfl) ?_
    refine va_get (D := (dC, dI)) (ci := 11) (v := .int (y281 8)) (C := RX11) (T := TX11) (N := 61) hx hb hts hin11 hown hK hP 4 rfl rfl 22 (Nat.le_of_ble_eq_true rfl) hw_1 (fun _ h9 => h9) rfl dX11_readLink_17 ?_
    refine lv_if_eq (tgt := 24) hx hb dX11_readLink_20 rfl (fun c9 => absurd c9 (iv_ne hq283 ivk_0 (by decide))) (fun _ => ?_)
    have hPD9 := cl_s (wc := [(m0, .inr (11, oX11 ra y281)), (ra 2, .inl (kI, 8, .inl q_told)), (ra 8, .inl (kI, 40, .inl q_from)), (ra 9, .inl (kI, 40, .inl q_to)), (ra 13, .inl (kI, 700, .inl q_tape))]) hP hD [4, 0, 1, 2, 3] rfl (by decide +kernel)
    have hP9 := hPD9.1
    have hD9 := hPD9.2
    exact W.vret hx hb hr (fun t ht hW => ⟨⟨(), rfl, trivial, y281, q_told, q_from, q_to, hq282, hq_told, hq_from, hq_to, (show (x0 2).toInt ≤ (y281 2).toInt from by omega), (show y281 3 = x0 3 from hq285), (show ∀ j : Nat, (j : Int) < (q_told 1).toInt → (q_from j).toInt < (q_to j).toInt from hLT), (show ∀ j : Nat, (j : Int) < (q_told 5).toInt → (q_from (20 + j)).toInt < (q_to (20 + j)).toInt from hLD), (show RRd tT nN y281 (lnkS tT nN sS (q_told 4) (q_told 5) (shT 20 q_from) (shT 20 q_to)) from it_t (Q := RRd tT nN y281) c1 (hq286)), (show y281 8 = 0 → q_told = upd q_told 5 (q_told 5 + 1) ∧ q_from = upd q_from ((20 + (q_told 5)).toNatClampNeg) (lnkA tT nN sS) ∧ q_to = upd q_to ((20 + (q_told 5)).toNatClampNeg) (lnkB tT nN sS (q_told 4) (q_told 5) (shT 20 q_from)) from fun w => absurd w (rr_nf hq286)), (show LowT q_told q_from q_to q_told q_from q_to from low_0), (show y281 1 = x0 1 from hq287), (show y281 10 = x0 10 from hq288), (show y281 21 = x0 21 from hq289), (show y281 25 = x0 25 from hq290), (show y281 23 = x0 23 from hq291), by rw [ht]; exact hP9, hD9⟩, hS.F ht⟩) hS.2.2 dX11_readLink_23
def rm_s11_readGoal : Room := { frames := 3, cells := 0, slots := 0, locals := 64 }
set_option maxHeartbeats 4000000 in
set_option maxRecDepth 100000 in
theorem s11_readGoal (l : Launch) (dC : Nat → ClassId) (dI : Nat → Nat → Nat) (kB kI kJ kZ kC kS : ClassId) (sz : Nat) (m0 : Nat) (ra : Nat → Nat) (x0 : Nat → Int32) (q_told : Nat → Int32) (q_from : Nat → Int32) (q_to : Nat → Int32) (q_goal : Nat → Int32) (q_tape : Nat → Int32) (tT : Nat → Int32) (nN : Int32) (sS : StT) (hX : fI lX11 hX11 x0) (hq_told : fI lTold hTold q_told) (hq_goal : fI (fun _ => 0) (fun _ => 11) q_goal) (hq_tape : fI (fun _ => 0) (fun _ => 255) q_tape) (hLT : ∀ j : Nat, (j : Int) < (q_told 1).toInt → (q_from j).toInt < (q_to j).toInt) (hLD : ∀ j : Nat, (j : Int) < (q_told 5).toInt → (q_from (20 + j)).toInt < (q_to (20 + j)).toInt) (hRr : RRd tT nN x0 sS) (hTQ : tT = q_tape) : Met l yX11_readGoal wsX11_readGoal rm_s11_readGoal (va_Pc [.ref m0] (fun U => U.heap.size = sz ∧ va_P (dC, dI) vwCl [(m0, .inr (11, oX11 ra x0)), (ra 2, .inl (kI, 8, .inl q_told)), (ra 10, .inl (kI, 6, .inl q_goal)), (ra 13, .inl (kI, 700, .inl q_tape))] U.heap ∧ kE dC dI kB kI kJ kZ kC kS U ∧ va_D (fun _ => True) [(m0, .inr (11, oX11 ra x0)), (ra 2, .inl (kI, 8, .inl q_told)), (ra 10, .inl (kI, 6, .inl q_goal)), (ra 13, .inl (kI, 700, .inl q_tape))])) (va_Qv (fun (_ : Unit) => True) (fun _ t => ∃ (x0' : Nat → Int32) (q_told' : Nat → Int32) (q_goal' : Nat → Int32), fI lX11 hX11 x0' ∧ fI lTold hTold q_told' ∧ fI (fun _ => 0) (fun _ => 11) q_goal' ∧ ((x0 2).toInt ≤ (x0' 2).toInt) ∧ (x0' 3 = x0 3) ∧ (∀ j : Nat, (j : Int) < (q_told' 1).toInt → (q_from j).toInt < (q_to j).toInt) ∧ (∀ j : Nat, (j : Int) < (q_told' 5).toInt → (q_from (20 + j)).toInt < (q_to (20 + j)).toInt) ∧ (RRd tT nN x0' (golS tT nN sS (q_told 4) (q_told 6) (shT 3 q_goal))) ∧ (x0' 8 = 0 → q_told' = upd q_told 6 (q_told 6 + 1) ∧ q_goal' = upd q_goal ((3 + (q_told 6)).toNatClampNeg) (lnkA tT nN sS)) ∧ (LowT q_told q_from q_to q_told' q_from q_to) ∧ (x0' 1 = x0 1) ∧ (x0' 10 = x0 10) ∧ (x0' 21 = x0 21) ∧ (x0' 25 = x0 25) ∧ (x0' 23 = x0 23) ∧ va_P (dC, dI) vwCl [(m0, .inr (11, oX11 ra x0')), (ra 2, .inl (kI, 8, .inl q_told')), (ra 10, .inl (kI, 6, .inl q_goal')), (ra 13, .inl (kI, 700, .inl q_tape))] t.heap ∧ va_D (va_A [(m0, .inr (11, oX11 ra x0)), (ra 2, .inl (kI, 8, .inl q_told)), (ra 10, .inl (kI, 6, .inl q_goal)), (ra 13, .inl (kI, 700, .inl q_tape))] sz) [(m0, .inr (11, oX11 ra x0')), (ra 2, .inl (kI, 8, .inl q_told')), (ra 10, .inl (kI, 6, .inl q_goal')), (ra 13, .inl (kI, 700, .inl q_tape))]) (va_A [(m0, .inr (11, oX11 ra x0)), (ra 2, .inl (kI, 8, .inl q_told)), (ra 10, .inl (kI, 6, .inl q_goal)), (ra 13, .inl (kI, 700, .inl q_tape))] sz)) 0 0 (va_A [(m0, .inr (11, oX11 ra x0)), (ra 2, .inl (kI, 8, .inl q_told)), (ra 10, .inl (kI, 6, .inl q_goal)), (ra 13, .inl (kI, 700, .inl q_tape))] sz) := by
  refine Met.ofW (cc := cX11_readGoal) (maxL := 3) (ret := none) (by decide) rfl ?_
  intro p e s m args0 below meth c s₁ B hml hv
  obtain ⟨hargs, hsz, hP, hE, hD0⟩ := hv
  have hx := B.exec
  have hb := B.bytes
  have hr := B.returns
  have hts := atoms_spec (ws := wsX11_readGoal) B.pre
  have hown : s.vm.findClass RX11 = some m.cls := findClass_of_methodNamed B.named
  have hlocks := B.notSynchronized
  have hK := hE.1
  have hin11 : ∀ w ∈ wsX110, w ∈ wsX11_readGoal := fun _ h9 => List.mem_cons_of_mem _ (List.mem_append_right _ h9)
  have hw_0 := hts (.fieldLink RX11 34 "PathProberModel" "told" "[I") (List.mem_of_getElem? (i := 1) rfl)
  have hw_1 := hts (.fieldLink RX11 184 "PathProberModel" "bad" "I") (List.mem_of_getElem? (i := 2) rfl)
  have hw_2 := hts (.fieldLink RX11 58 "PathProberModel" "goal" "[I") (List.mem_of_getElem? (i := 3) rfl)
  subst hsz
  have hD := hD0.self (sz := s.heap.size)
  generalize hAe : va_A [(m0, .inr (11, oX11 ra x0)), (ra 2, .inl (kI, 8, .inl q_told)), (ra 10, .inl (kI, 6, .inl q_goal)), (ra 13, .inl (kI, 700, .inl q_tape))] s.heap.size = A at hD ⊢
  have hA : ∀ q : Nat, s.heap.size ≤ q → A q := fun q h => by rw [← hAe]; exact Or.inr h
  have hS : va_S A s.heap s.heap [] := va_S.rf
  have hP : va_P (dC, dI) vwCl [(m0, .inr (11, oX11 ra x0)), (ra 2, .inl (kI, 8, .inl q_told)), (ra 10, .inl (kI, 6, .inl q_goal)), (ra 13, .inl (kI, 700, .inl q_tape))] s.heap := hP
  have hl := lv_entry ([.ref m0]) (n := 3) (Nat.le_of_ble_eq_true rfl)
  have hla : entryFrame m args0 3 = entryFrame m ([.ref m0] : List Value).toArray 3 := by rw [hargs]
  rw [hla, lg_entry_eq]
  generalize (lg_sl ([.ref m0]) ++ List.replicate (3 - (lg_sl ([.ref m0])).length) Slot.unset).toArray = ls at hl ⊢
  have hl : lv_has ls 3 [(0, .ref m0)] := hl
  have hJ35 : ∀ (n : Nat) (y35_0 : Nat → Int32) (v35_loc1 : Int32) (v35_loc2 : Int32) (H : Heap) (locs : List Loc) (ls : Array Slot), (2 - v35_loc2.toInt).toNat < n → fI lX11 hX11 y35_0 → iv 0 11 v35_loc1 → iv 0 2 v35_loc2 → iv 0 2 (q_told 6) → iv 0 0 (x0 8) → (RRd tT nN y35_0 (glK (shT 3 q_goal) v35_loc2 v35_loc1 (lnk1 tT nN sS (q_told 4)))) → (v35_loc2.toInt ≤ (q_told 6).toInt) → (okT (lnk1 tT nN sS (q_told 4)) → v35_loc1 = lnkA tT nN sS) → (¬ q_told 6 = 3) → ((x0 2).toInt ≤ (y35_0 2).toInt) → (y35_0 3 = x0 3) → (y35_0 1 = x0 1) → (y35_0 10 = x0 10) → (y35_0 21 = x0 21) → (y35_0 25 = x0 25) → (y35_0 23 = x0 23) → va_P (dC, dI) vwCl [(m0, .inr (11, oX11 ra y35_0)), (ra 2, .inl (kI, 8, .inl q_told)), (ra 10, .inl (kI, 6, .inl q_goal)), (ra 13, .inl (kI, 700, .inl q_tape))] H → va_D A [(m0, .inr (11, oX11 ra y35_0)), (ra 2, .inl (kI, 8, .inl q_told)), (ra 10, .inl (kI, 6, .inl q_goal)), (ra 13, .inl (kI, 700, .inl q_tape))] → va_S A s.heap H locs → lv_has ls 3 [(0, .ref m0), (1, .int v35_loc1), (2, .int v35_loc2)] → W p l e (headSpec wsX11_readGoal rm_s11_readGoal).room s m args0 below meth c H locs (0) (0) (MQ below (va_Qv (fun (_ : Unit) => True) (fun _ t => ∃ (x0' : Nat → Int32) (q_told' : Nat → Int32) (q_goal' : Nat → Int32), fI lX11 hX11 x0' ∧ fI lTold hTold q_told' ∧ fI (fun _ => 0) (fun _ => 11) q_goal' ∧ ((x0 2).toInt ≤ (x0' 2).toInt) ∧ (x0' 3 = x0 3) ∧ (∀ j : Nat, (j : Int) < (q_told' 1).toInt → (q_from j).toInt < (q_to j).toInt) ∧ (∀ j : Nat, (j : Int) < (q_told' 5).toInt → (q_from (20 + j)).toInt < (q_to (20 + j)).toInt) ∧ (RRd tT nN x0' (golS tT nN sS (q_told 4) (q_told 6) (shT 3 q_goal))) ∧ (x0' 8 = 0 → q_told' = upd q_told 6 (q_told 6 + 1) ∧ q_goal' = upd q_goal ((3 + (q_told 6)).toNatClampNeg) (lnkA tT nN sS)) ∧ (LowT q_told q_from q_to q_told' q_from q_to) ∧ (x0' 1 = x0 1) ∧ (x0' 10 = x0 10) ∧ (x0' 21 = x0 21) ∧ (x0' 25 = x0 25) ∧ (x0' 23 = x0 23) ∧ va_P (dC, dI) vwCl [(m0, .inr (11, oX11 ra x0')), (ra 2, .inl (kI, 8, .inl q_told')), (ra 10, .inl (kI, 6, .inl q_goal')), (ra 13, .inl (kI, 700, .inl q_tape))] t.heap ∧ va_D A [(m0, .inr (11, oX11 ra x0')), (ra 2, .inl (kI, 8, .inl q_told')), (ra 10, .inl (kI, 6, .inl q_goal')), (ra 13, .inl (kI, 700, .inl q_tape))]) A) args0 s 0 0 A) (F0 m 35 ls []) := by
    intro n
    induction n with
    | zero => intro y35_0 v35_loc1 v35_loc2 H locs ls hm35; exact absurd hm35 (Nat.not_lt_zero _)
    | succ n ih35 =>
      intro y35_0 v35_loc1 v35_loc2 H locs ls hm35 hI35_0 h35_2 h35_3 h35_4 h35_5 hgo_35 hgi_35 hgv_35 hg3_35 hat_35 hts_35 htp_35 hfp_35 hnd_35 hnt_35 hhm_35 hP hD hS hl
      refine lv_iload_n hx hb dX11_readGoal_35 rfl (lv_at hl 2 rfl) ?_
      refine lv_aload_n hx hb dX11_readGoal_36 rfl (lv_at hl 0 rfl) ?_
      refine va_get (D := (dC, dI)) (ci := 11) (v := .ref (ra 2)) (C := RX11) (T := TX11) (N := 61) hx hb hts hin11 hown hK hP 0 rfl rfl 3 (Nat.le_of_ble_eq_true rfl) hw_0 (fun _ h9 => h9) rfl dX11_readGoal_37 ?_
      refine lv_bipush (v := 6) hx hb dX11_readGoal_40 bp_6 ?_
      refine va_iald hx hb hK hP 1 1 rfl rfl (vp_in_nI (n := 6) (by decide) (by decide)) dX11_readGoal_42 ?_
      refine W.eq (g2 := F0 m 43 ls [.int (q_told 6), .int v35_loc2]) rfl ?_
      refine lv_icmp_ge (tgt := 76) hx hb dX11_readGoal_43 rfl (fun c1 => ?_) (fun c1 => ?_)
      · have hrr2 : RRd tT nN y35_0 (iteT (gotT (shT 3 q_goal) (q_told 6) (lnkA tT nN sS)) (failT 4 (lnk1 tT nN sS (q_told 4))) (lnk1 tT nN sS (q_told 4))) := (gl_e (Int32.toInt_inj.mp (Int.le_antisymm hgi_35 (Int32.le_iff_toInt_le.mp c1))) hgv_35) ▸ hgo_35
        refine lv_aload_n hx hb dX11_readGoal_76 rfl (lv_at hl 0 rfl) ?_
        refine va_get (D := (dC, dI)) (ci := 11) (v := .int (y35_0 8)) (C := RX11) (T := TX11) (N := 61) hx hb hts hin11 hown hK hP 0 rfl rfl 22 (Nat.le_of_ble_eq_true rfl) hw_1 (fun _ h9 => h9) rfl dX11_readGoal_77 ?_
        refine lv_if_eq (tgt := 84) hx hb dX11_readGoal_80 rfl (fun c3 => ?_) (fun c3 => ?_)
        · have b4 : iv 0 0 (y35_0 8) := iv_eqL c3 ivk_0
          refine lv_aload_n hx hb dX11_readGoal_84 rfl (lv_at hl 0 rfl) ?_
          obtain ⟨hPc, hDc, hFc, hJn⟩ := cl_a (wc := [(m0, .inr (11, oX11 ra y35_0)), (ra 13, .inl (kI, 700, .inl q_tape))]) (wr := [(ra 2, .inl (kI, 8, .inl q_told)), (ra 10, .inl (kI, 6, .inl q_goal))]) hP hD hS hA [0, 3] [1, 2] rfl rfl (by decide +kernel)
          refine va_callv (va_runV (As := []) (rest := []) ⟨hx, hb, hml, hown, hts⟩ (s11_stepOn l dC dI kB kI kJ kZ kC kS H.size m0 ra y35_0 q_tape tT nN (nextT tT nN (iteT (gotT (shT 3 q_goal) (q_told 6) (lnkA tT nN sS)) (failT 4 (lnk1 tT nN sS (q_told 4))) (lnk1 tT nN sS (q_told 4)))) (hI35_0) (hq_tape) (hrr2.2) (stp_of hrr2) (hTQ)) (cwV 0 hts gX11_readGoal_X11_stepOn rfl rfl rfl (by decide +kernel) ⟨Nat.le_of_ble_eq_true rfl, Nat.le_of_ble_eq_true rfl⟩) ⟨fun a U g mk q => by obtain ⟨q0, q1, qP, qE, qD⟩ := q; exact ⟨q0, q1, qP, kE_call qE, qD⟩, va_recv hK hP (ci := 11) (q0 := 0) rfl rfl, fun U hU hW => ⟨rfl, by rw [hU], by rw [hU]; exact hPc, kE_warm hW hE, hDc.weaken (fun _ _ _ _ => trivial)⟩⟩ rfl rfl hl.1 rfl (lv_room (Nat.le_of_ble_eq_true rfl)) dX11_readGoal_85 ⟨Nat.le_of_ble_eq_true rfl, Nat.le_of_ble_eq_true rfl⟩) hS (fun q _ h => hFc q h) hFc (fun u t H locs ht hvm w6 hB hz1 hk1 hS => ?_)
          obtain ⟨y7, hq8, hq9, hq10, hq11, hq12, hq13, hq14, hq15, hq16, hq17, hP1, hD1⟩ := hB
          try dsimp only at w6
          obtain ⟨hPa, hDa⟩ := hJn (w1 := [(m0, .inr (11, oX11 ra y7)), (ra 13, .inl (kI, 700, .inl q_tape))]) hk1 ht hP1 hD1
          clear hP hD hPc hDc hFc hJn hP1 hD1 hk1
          have hP : va_P (dC, dI) vwCl [(ra 2, .inl (kI, 8, .inl q_told)), (ra 10, .inl (kI, 6, .inl q_goal)), (m0, .inr (11, oX11 ra y7)), (ra 13, .inl (kI, 700, .inl q_tape))] H := hPa
          have hD : va_D A [(ra 2, .inl (kI, 8, .inl q_told)), (ra 10, .inl (kI, 6, .inl q_goal)), (m0, .inr (11, oX11 ra y7)), (ra 13, .inl (kI, 700, .inl q_tape))] := hDa
          clear hPa hDa
          refine W.widen (k := 0) (n := 0) (Nat.le_of_ble_eq_true rfl) (Nat.le_of_ble_eq_true rfl) ?_
          refine lv_aload_n hx hb dX11_readGoal_88 rfl (lv_at hl 0 rfl) ?_
          refine va_get (D := (dC, dI)) (ci := 11) (v := .ref (ra 10)) (C := RX11) (T := TX11) (N := 61) hx hb hts hin11 hown hK hP 2 rfl rfl 11 (Nat.le_of_ble_eq_true rfl) hw_2 (fun _ h9 => h9) rfl dX11_readGoal_89 ?_
          refine lv_iconst (v := 3) hx hb dX11_readGoal_92 ic_3 ?_
          refine lv_aload_n hx hb dX11_readGoal_93 rfl (lv_at hl 0 rfl) ?_
          refine va_get (D := (dC, dI)) (ci := 11) (v := .ref (ra 2)) (C := RX11) (T := TX11) (N := 61) hx hb hts hin11 hown hK hP 2 rfl rfl 3 (Nat.le_of_ble_eq_true rfl) hw_0 (fun _ h9 => h9) rfl dX11_readGoal_94 ?_
          refine lv_bipush (v := 6) hx hb dX11_readGoal_97 bp_6 ?_
          refine va_iald hx hb hK hP 0 1 rfl rfl (vp_in_nI (n := 6) (by decide) (by decide)) dX11_readGoal_99 ?_
          refine W.eq (g2 := F0 m 100 ls [.int (q_told 6), .int 3, .ref (ra 10)]) rfl ?_
          refine lv_iadd hx hb dX11_readGoal_100 ?_
          have b18 : iv 3 5 (3 + (q_told 6)) := iv_add ivk_3 h35_4 (by decide) (by decide) (by decide) (by decide)
          refine lv_iload_n hx hb dX11_readGoal_101 rfl (lv_at hl 1 rfl) ?_
          refine va_iast hx hb hK hP hD hS 1 1 rfl rfl (iv_in b18 (by decide) (by decide)) dX11_readGoal_102 (fun H locs hPa hDa hS => ?_)
          clear hP hD
          have hP : va_P (dC, dI) vwCl [(ra 2, .inl (kI, 8, .inl q_told)), (ra 10, .inl (kI, 6, .inl (upd q_goal (3 + (q_told 6)).toNatClampNeg v35_loc1))), (m0, .inr (11, oX11 ra y7)), (ra 13, .inl (kI, 700, .inl q_tape))] H := hPa
          have hD : va_D A [(ra 2, .inl (kI, 8, .inl q_told)), (ra 10, .inl (kI, 6, .inl (upd q_goal (3 + (q_told 6)).toNatClampNeg v35_loc1))), (m0, .inr (11, oX11 ra y7)), (ra 13, .inl (kI, 700, .inl q_tape))] := hDa
          clear hPa hDa
          refine lv_aload_n hx hb dX11_readGoal_103 rfl (lv_at hl 0 rfl) ?_
          refine va_get (D := (dC, dI)) (ci := 11) (v := .ref (ra 2)) (C := RX11) (T := TX11) (N := 61) hx hb hts hin11 hown hK hP 2 rfl rfl 3 (Nat.le_of_ble_eq_true rfl) hw_0 (fun _ h9 => h9) rfl dX11_readGoal_104 ?_
          refine lv_bipush (v := 6) hx hb dX11_readGoal_107 bp_6 ?_
          refine lv_dup2_11 hx hb dX11_readGoal_109 rfl rfl ?_
          refine va_iald hx hb hK hP 0 1 rfl rfl (vp_in_nI (n := 6) (by decide) (by decide)) dX11_readGoal_110 ?_
          refine W.eq (g2 := F0 m 111 ls [.int (q_told 6), .int 6, .ref (ra 2)]) rfl ?_
          refine lv_iconst (v := 1) hx hb dX11_readGoal_111 ic_1 ?_
          refine lv_iadd hx hb dX11_readGoal_112 ?_
          have b19 : iv 1 3 ((q_told 6) + 1) := iv_add h35_4 ivk_1 (by decide) (by decide) (by decide) (by decide)
          refine va_iast hx hb hK hP hD hS 0 1 rfl rfl (vp_in_nI (n := 6) (by decide) (by decide)) dX11_readGoal_113 (fun H locs hPa hDa hS => ?_)
          clear hP hD
          have hP : va_P (dC, dI) vwCl [(ra 2, .inl (kI, 8, .inl (upd q_told 6 ((q_told 6) + 1)))), (ra 10, .inl (kI, 6, .inl (upd q_goal (3 + (q_told 6)).toNatClampNeg v35_loc1))), (m0, .inr (11, oX11 ra y7)), (ra 13, .inl (kI, 700, .inl q_tape))] H := hPa
          have hD : va_D A [(ra 2, .inl (kI, 8, .inl (upd q_told 6 ((q_told 6) + 1)))), (ra 10, .inl (kI, 6, .inl (upd q_goal (3 + (q_told 6)).toNatClampNeg v35_loc1))), (m0, .inr (11, oX11 ra y7)), (ra 13, .inl (kI, 700, .inl q_tape))] := hDa
          clear hPa hDa
          have hPD9 := cl_s (wc := [(m0, .inr (11, oX11 ra y7)), (ra 2, .inl (kI, 8, .inl (upd q_told 6 ((q_told 6) + 1)))), (ra 10, .inl (kI, 6, .inl (upd q_goal (3 + (q_told 6)).toNatClampNeg v35_loc1))), (ra 13, .inl (kI, 700, .inl q_tape))]) hP hD [2, 0, 1, 3] rfl (by decide +kernel)
          have hP9 := hPD9.1
          have hD9 := hPD9.2
          exact W.vret hx hb hr (fun t ht hW => ⟨⟨(), rfl, trivial, y7, upd q_told 6 ((q_told 6) + 1), upd q_goal (3 + (q_told 6)).toNatClampNeg v35_loc1, hq8, (fI_u hq_told (k := 6) ((iv_w b19 (by decide) (by decide)))), (fI_u hq_goal (k := (3 + (q_told 6)).toNatClampNeg) (h35_2)), (show (x0 2).toInt ≤ (y7 2).toInt from by omega), (show y7 3 = x0 3 from hq10.trans (hts_35)), (show ∀ j : Nat, (j : Int) < (q_told 1).toInt → (q_from j).toInt < (q_to j).toInt from hLT), (show ∀ j : Nat, (j : Int) < (q_told 5).toInt → (q_from (20 + j)).toInt < (q_to (20 + j)).toInt from hLD), (show RRd tT nN y7 (golS tT nN sS (q_told 4) (q_told 6) (shT 3 q_goal)) from it_f (Q := RRd tT nN y7) hg3_35 (hq12)), fun _ => ⟨rfl, congrArg (upd q_goal ((3 + (q_told 6)).toNatClampNeg)) (hgv_35 (ok_ite (rr_ok hrr2 c3)).1)⟩, low_t (by decide), (show y7 1 = x0 1 from hq13.trans (htp_35)), (show y7 10 = x0 10 from hq14.trans (hfp_35)), (show y7 21 = x0 21 from hq15.trans (hnd_35)), (show y7 25 = x0 25 from hq16.trans (hnt_35)), (show y7 23 = x0 23 from hq17.trans (hhm_35)), by rw [ht]; exact hP9, hD9⟩, hS.F ht⟩) hS.2.2 dX11_readGoal_114
        · have b20 : iv 1 5 (y35_0 8) := iv_neLo c3 (hI35_0 8 : iv 0 5 (y35_0 8)) ivk_0 (by decide) (by decide)
          have hP9 := hP
          have hD9 := hD
          exact W.vret hx hb hr (fun t ht hW => ⟨⟨(), rfl, trivial, y35_0, q_told, q_goal, hI35_0, hq_told, hq_goal, (show (x0 2).toInt ≤ (y35_0 2).toInt from by omega), (show y35_0 3 = x0 3 from hts_35), (show ∀ j : Nat, (j : Int) < (q_told 1).toInt → (q_from j).toInt < (q_to j).toInt from hLT), (show ∀ j : Nat, (j : Int) < (q_told 5).toInt → (q_from (20 + j)).toInt < (q_to (20 + j)).toInt from hLD), (show RRd tT nN y35_0 (golS tT nN sS (q_told 4) (q_told 6) (shT 3 q_goal)) from it_f (Q := RRd tT nN y35_0) hg3_35 ((rr_stepN hrr2 c3))), (show y35_0 8 = 0 → q_told = upd q_told 6 (q_told 6 + 1) ∧ q_goal = upd q_goal ((3 + (q_told 6)).toNatClampNeg) (lnkA tT nN sS) from fun w => absurd w c3), (show LowT q_told q_from q_to q_told q_from q_to from low_0), (show y35_0 1 = x0 1 from htp_35), (show y35_0 10 = x0 10 from hfp_35), (show y35_0 21 = x0 21 from hnd_35), (show y35_0 25 = x0 25 from hnt_35), (show y35_0 23 = x0 23 from hhm_35), by rw [ht]; exact hP9, hD9⟩, hS.F ht⟩) hS.2.2 dX11_readGoal_83
      · have b21 : iv 0 1 v35_loc2 := iv_ltL (Int32.not_le.mp c1) h35_3 h35_4 (by decide) (by decide)
        have b22 : iv 1 2 (q_told 6) := iv_ltR (Int32.not_le.mp c1) h35_3 h35_4 (by decide) (by decide)
        refine lv_aload_n hx hb dX11_readGoal_46 rfl (lv_at hl 0 rfl) ?_
        refine va_get (D := (dC, dI)) (ci := 11) (v := .int (y35_0 8)) (C := RX11) (T := TX11) (N := 61) hx hb hts hin11 hown hK hP 0 rfl rfl 22 (Nat.le_of_ble_eq_true rfl) hw_1 (fun _ h9 => h9) rfl dX11_readGoal_47 ?_
        refine lv_if_ne (tgt := 70) hx hb dX11_readGoal_50 rfl (fun c23 => ?_) (fun c23 => ?_)
        · have b24 : iv 1 5 (y35_0 8) := iv_neLo c23 (hI35_0 8 : iv 0 5 (y35_0 8)) ivk_0 (by decide) (by decide)
          refine lv_iinc (v := v35_loc2 + Int32.ofInt 1) (lv' := [(2, .int (v35_loc2 + Int32.ofInt 1)), (0, .ref m0), (1, .int v35_loc1)]) hx hb dX11_readGoal_70 hl (k := 2) rfl (rfl) (Nat.le_of_ble_eq_true rfl) rfl (fun ls hl => ?_)
          have b25 : iv 1 2 (v35_loc2 + Int32.ofInt 1) := iv_add b21 ivo_1 (by decide) (by decide) (by decide) (by decide)
          refine lv_goto (tgt := 35) hx hb dX11_readGoal_73 rfl ?_
          exact ih35 y35_0 v35_loc1 (v35_loc2 + Int32.ofInt 1) _ _ _ (ms_up (c := 1) (d := 0) b21 hm35 (by decide) (iv_inc 1 b21 (by decide) (by decide) (by decide) (by decide)) (by decide) rfl) (hI35_0) (h35_2) ((iv_w b25 (by decide) (by decide))) ((iv_w b22 (by decide) (by decide))) (h35_5) ((show RRd tT nN y35_0 (glK (shT 3 q_goal) (v35_loc2 + Int32.ofInt 1) v35_loc1 (lnk1 tT nN sS (q_told 4))) from (gl_b hgo_35 c23 (iv_w b21 (by decide) (by decide))) ▸ hgo_35)) ((show (v35_loc2 + Int32.ofInt 1).toInt ≤ (q_told 6).toInt from by have q := Int32.lt_iff_toInt_lt.mp (Int32.not_le.mp c1); rw [iv_inc 1 b21 (by decide) (by decide) (by decide) (by decide)]; omega)) ((show okT (lnk1 tT nN sS (q_told 4)) → v35_loc1 = lnkA tT nN sS from hgv_35)) ((show ¬ q_told 6 = 3 from hg3_35)) ((show (x0 2).toInt ≤ (y35_0 2).toInt from by omega)) ((show y35_0 3 = x0 3 from hts_35)) ((show y35_0 1 = x0 1 from htp_35)) ((show y35_0 10 = x0 10 from hfp_35)) ((show y35_0 21 = x0 21 from hnd_35)) ((show y35_0 25 = x0 25 from hnt_35)) ((show y35_0 23 = x0 23 from hhm_35)) (hP) (hD) hS (lv_sub hl [1, 2, 0] rfl)
        · have b26 : iv 0 0 (y35_0 8) := iv_eqL c23 ivk_0
          refine lv_aload_n hx hb dX11_readGoal_53 rfl (lv_at hl 0 rfl) ?_
          refine va_get (D := (dC, dI)) (ci := 11) (v := .ref (ra 10)) (C := RX11) (T := TX11) (N := 61) hx hb hts hin11 hown hK hP 0 rfl rfl 11 (Nat.le_of_ble_eq_true rfl) hw_2 (fun _ h9 => h9) rfl dX11_readGoal_54 ?_
          refine lv_iconst (v := 3) hx hb dX11_readGoal_57 ic_3 ?_
          refine lv_iload_n hx hb dX11_readGoal_58 rfl (lv_at hl 2 rfl) ?_
          refine lv_iadd hx hb dX11_readGoal_59 ?_
          have b27 : iv 3 4 (3 + v35_loc2) := iv_add ivk_3 b21 (by decide) (by decide) (by decide) (by decide)
          refine va_iald hx hb hK hP 2 1 rfl rfl (iv_in b27 (by decide) (by decide)) dX11_readGoal_60 ?_
          have b28 : iv 0 11 (q_goal (3 + v35_loc2).toNatClampNeg) := hq_goal _
          refine lv_iload_n hx hb dX11_readGoal_61 rfl (lv_at hl 1 rfl) ?_
          refine lv_icmp_ne (tgt := 70) hx hb dX11_readGoal_62 rfl (fun c29 => ?_) (fun c29 => ?_)
          · refine lv_iinc (v := v35_loc2 + Int32.ofInt 1) (lv' := [(2, .int (v35_loc2 + Int32.ofInt 1)), (0, .ref m0), (1, .int v35_loc1)]) hx hb dX11_readGoal_70 hl (k := 2) rfl (rfl) (Nat.le_of_ble_eq_true rfl) rfl (fun ls hl => ?_)
            have b30 : iv 1 2 (v35_loc2 + Int32.ofInt 1) := iv_add b21 ivo_1 (by decide) (by decide) (by decide) (by decide)
            refine lv_goto (tgt := 35) hx hb dX11_readGoal_73 rfl ?_
            exact ih35 y35_0 v35_loc1 (v35_loc2 + Int32.ofInt 1) _ _ _ (ms_up (c := 1) (d := 0) b21 hm35 (by decide) (iv_inc 1 b21 (by decide) (by decide) (by decide) (by decide)) (by decide) rfl) (hI35_0) (h35_2) ((iv_w b30 (by decide) (by decide))) ((iv_w b22 (by decide) (by decide))) (h35_5) ((show RRd tT nN y35_0 (glK (shT 3 q_goal) (v35_loc2 + Int32.ofInt 1) v35_loc1 (lnk1 tT nN sS (q_told 4))) from (gl_n (f := (shT 3 q_goal)) hgo_35 c23 (iv_w b21 (by decide) (by decide)) (sh3 (f := q_goal) (iv_w b21 (by decide) (by decide)) ▸ c29)) ▸ hgo_35)) ((show (v35_loc2 + Int32.ofInt 1).toInt ≤ (q_told 6).toInt from by have q := Int32.lt_iff_toInt_lt.mp (Int32.not_le.mp c1); rw [iv_inc 1 b21 (by decide) (by decide) (by decide) (by decide)]; omega)) ((show okT (lnk1 tT nN sS (q_told 4)) → v35_loc1 = lnkA tT nN sS from hgv_35)) ((show ¬ q_told 6 = 3 from hg3_35)) ((show (x0 2).toInt ≤ (y35_0 2).toInt from by omega)) ((show y35_0 3 = x0 3 from hts_35)) ((show y35_0 1 = x0 1 from htp_35)) ((show y35_0 10 = x0 10 from hfp_35)) ((show y35_0 21 = x0 21 from hnd_35)) ((show y35_0 25 = x0 25 from hnt_35)) ((show y35_0 23 = x0 23 from hhm_35)) (hP) (hD) hS (lv_sub hl [1, 2, 0] rfl)
          · refine lv_aload_n hx hb dX11_readGoal_65 rfl (lv_at hl 0 rfl) ?_
            refine lv_iconst (v := 4) hx hb dX11_readGoal_66 ic_4 ?_
            obtain ⟨hPc, hDc, hFc, hJn⟩ := cl_a (wc := [(m0, .inr (11, oX11 ra y35_0))]) (wr := [(ra 2, .inl (kI, 8, .inl q_told)), (ra 10, .inl (kI, 6, .inl q_goal)), (ra 13, .inl (kI, 700, .inl q_tape))]) hP hD hS hA [0] [1, 2, 3] rfl rfl (by decide +kernel)
            refine va_callv (va_runV (As := [.int 4]) (rest := []) ⟨hx, hb, hml, hown, hts⟩ (s11_wrong l dC dI kB kI kJ kZ kC kS H.size m0 ra y35_0 4 tT nN (glK (shT 3 q_goal) v35_loc2 v35_loc1 (lnk1 tT nN sS (q_told 4))) (hI35_0) ((iv_w ivk_4 (by decide) (by decide))) (hgo_35)) (cwV 1 hts gX11_readGoal_X11_wrong rfl rfl rfl (by decide +kernel) ⟨Nat.le_of_ble_eq_true rfl, Nat.le_of_ble_eq_true rfl⟩) ⟨fun a U g mk q => by obtain ⟨q0, q1, qP, qE, qD⟩ := q; exact ⟨q0, q1, qP, kE_call qE, qD⟩, va_recv hK hP (ci := 11) (q0 := 0) rfl rfl, fun U hU hW => ⟨rfl, by rw [hU], by rw [hU]; exact hPc, kE_warm hW hE, hDc.weaken (fun _ _ _ _ => trivial)⟩⟩ rfl rfl hl.1 rfl (lv_room (Nat.le_of_ble_eq_true rfl)) dX11_readGoal_67 ⟨Nat.le_of_ble_eq_true rfl, Nat.le_of_ble_eq_true rfl⟩) hS (fun q _ h => hFc q h) hFc (fun u t H locs ht hvm w32 hB hz1 hk1 hS => ?_)
            obtain ⟨y33, hq34, hq35, hq36, hq37, hq38, hq39, hq40, hq41, hq42, hq43, hP1, hD1⟩ := hB
            try dsimp only at w32
            obtain ⟨hPa, hDa⟩ := hJn (w1 := [(m0, .inr (11, oX11 ra y33))]) hk1 ht hP1 hD1
            clear hP hD hPc hDc hFc hJn hP1 hD1 hk1
            have hP : va_P (dC, dI) vwCl [(ra 2, .inl (kI, 8, .inl q_told)), (ra 10, .inl (kI, 6, .inl q_goal)), (ra 13, .inl (kI, 700, .inl q_tape)), (m0, .inr (11, oX11 ra y33))] H := hPa
            have hD : va_D A [(ra 2, .inl (kI, 8, .inl q_told)), (ra 10, .inl (kI, 6, .inl q_goal)), (ra 13, .inl (kI, 700, .inl q_tape)), (m0, .inr (11, oX11 ra y33))] := hDa
            clear hPa hDa
            refine W.widen (k := 0) (n := 0) (Nat.le_of_ble_eq_true rfl) (Nat.le_of_ble_eq_true rfl) ?_
            refine lv_iinc (v := v35_loc2 + Int32.ofInt 1) (lv' := [(2, .int (v35_loc2 + Int32.ofInt 1)), (0, .ref m0), (1, .int v35_loc1)]) hx hb dX11_readGoal_70 hl (k := 2) rfl (rfl) (Nat.le_of_ble_eq_true rfl) rfl (fun ls hl => ?_)
            have b44 : iv 1 2 (v35_loc2 + Int32.ofInt 1) := iv_add b21 ivo_1 (by decide) (by decide) (by decide) (by decide)
            refine lv_goto (tgt := 35) hx hb dX11_readGoal_73 rfl ?_
            have hPD9 := cl_s (wc := [(m0, .inr (11, oX11 ra y33)), (ra 2, .inl (kI, 8, .inl q_told)), (ra 10, .inl (kI, 6, .inl q_goal)), (ra 13, .inl (kI, 700, .inl q_tape))]) hP hD [3, 0, 1, 2] rfl (by decide +kernel)
            exact ih35 y33 v35_loc1 (v35_loc2 + Int32.ofInt 1) _ _ _ (ms_up (c := 1) (d := 0) b21 hm35 (by decide) (iv_inc 1 b21 (by decide) (by decide) (by decide) (by decide)) (by decide) rfl) (hq34) (h35_2) ((iv_w b44 (by decide) (by decide))) ((iv_w b22 (by decide) (by decide))) (h35_5) ((show RRd tT nN y33 (glK (shT 3 q_goal) (v35_loc2 + Int32.ofInt 1) v35_loc1 (lnk1 tT nN sS (q_told 4))) from (gl_y (f := (shT 3 q_goal)) hgo_35 c23 (iv_w b21 (by decide) (by decide)) (sh3 (f := q_goal) (iv_w b21 (by decide) (by decide)) ▸ c29)) ▸ hq38)) ((show (v35_loc2 + Int32.ofInt 1).toInt ≤ (q_told 6).toInt from by have q := Int32.lt_iff_toInt_lt.mp (Int32.not_le.mp c1); rw [iv_inc 1 b21 (by decide) (by decide) (by decide) (by decide)]; omega)) ((show okT (lnk1 tT nN sS (q_told 4)) → v35_loc1 = lnkA tT nN sS from hgv_35)) ((show ¬ q_told 6 = 3 from hg3_35)) ((show (x0 2).toInt ≤ (y33 2).toInt from by omega)) ((show y33 3 = x0 3 from hq37.trans (hts_35))) ((show y33 1 = x0 1 from hq39.trans (htp_35))) ((show y33 10 = x0 10 from hq40.trans (hfp_35))) ((show y33 21 = x0 21 from hq41.trans (hnd_35))) ((show y33 25 = x0 25 from hq42.trans (hnt_35))) ((show y33 23 = x0 23 from hq43.trans (hhm_35))) (hPD9.1) (hPD9.2) hS (lv_sub hl [1, 2, 0] rfl)
  refine lv_aload_n hx hb dX11_readGoal_0 rfl (lv_at hl 0 rfl) ?_
  refine va_get (D := (dC, dI)) (ci := 11) (v := .ref (ra 2)) (C := RX11) (T := TX11) (N := 61) hx hb hts hin11 hown hK hP 0 rfl rfl 3 (Nat.le_of_ble_eq_true rfl) hw_0 (fun _ h9 => h9) rfl dX11_readGoal_1 ?_
  refine lv_bipush (v := 6) hx hb dX11_readGoal_4 bp_6 ?_
  refine va_iald hx hb hK hP 1 1 rfl rfl (vp_in_nI (n := 6) (by decide) (by decide)) dX11_readGoal_6 ?_
  refine W.eq (g2 := F0 m 7 ls [.int (q_told 6)]) rfl ?_
  refine lv_iconst (v := 3) hx hb dX11_readGoal_7 ic_3 ?_
  refine lv_icmp_ne (tgt := 16) hx hb dX11_readGoal_8 rfl (fun c45 => ?_) (fun c45 => ?_)
  · have b46 : iv 0 2 (q_told 6) := iv_neHi c45 (hq_told 6 : iv 0 3 (q_told 6)) ivk_3 (by decide) (by decide)
    refine lv_aload_n hx hb dX11_readGoal_16 rfl (lv_at hl 0 rfl) ?_
    refine va_get (D := (dC, dI)) (ci := 11) (v := .int (x0 8)) (C := RX11) (T := TX11) (N := 61) hx hb hts hin11 hown hK hP 0 rfl rfl 22 (Nat.le_of_ble_eq_true rfl) hw_1 (fun _ h9 => h9) rfl dX11_readGoal_17 ?_
    refine lv_if_eq (tgt := 24) hx hb dX11_readGoal_20 rfl (fun c47 => ?_) (fun c47 => ?_)
    · have b48 : iv 0 0 (x0 8) := iv_eqL c47 ivk_0
      refine lv_aload_n hx hb dX11_readGoal_24 rfl (lv_at hl 0 rfl) ?_
      obtain ⟨hPc, hDc, hFc, hJn⟩ := cl_a (wc := [(m0, .inr (11, oX11 ra x0)), (ra 13, .inl (kI, 700, .inl q_tape))]) (wr := [(ra 2, .inl (kI, 8, .inl q_told)), (ra 10, .inl (kI, 6, .inl q_goal))]) hP hD hS hA [0, 3] [1, 2] rfl rfl (by decide +kernel)
      refine va_callv (va_runV (As := []) (rest := []) ⟨hx, hb, hml, hown, hts⟩ (s11_stepOn l dC dI kB kI kJ kZ kC kS s.heap.size m0 ra x0 q_tape tT nN (nextT tT nN sS) (hX) (hq_tape) (hRr.2) (stp_of hRr) (hTQ)) (cwV 0 hts gX11_readGoal_X11_stepOn rfl rfl rfl (by decide +kernel) ⟨Nat.le_of_ble_eq_true rfl, Nat.le_of_ble_eq_true rfl⟩) ⟨fun a U g mk q => by obtain ⟨q0, q1, qP, qE, qD⟩ := q; exact ⟨q0, q1, qP, kE_call qE, qD⟩, va_recv hK hP (ci := 11) (q0 := 0) rfl rfl, fun U hU hW => ⟨rfl, by rw [hU], by rw [hU]; exact hPc, kE_warm hW hE, hDc.weaken (fun _ _ _ _ => trivial)⟩⟩ rfl rfl hl.1 rfl (lv_room (Nat.le_of_ble_eq_true rfl)) dX11_readGoal_25 ⟨Nat.le_of_ble_eq_true rfl, Nat.le_of_ble_eq_true rfl⟩) hS (fun q _ h => hFc q h) hFc (fun u t H locs ht hvm w50 hB hz1 hk1 hS => ?_)
      obtain ⟨y51, hq52, hq53, hq54, hq55, hq56, hq57, hq58, hq59, hq60, hq61, hP1, hD1⟩ := hB
      try dsimp only at w50
      obtain ⟨hPa, hDa⟩ := hJn (w1 := [(m0, .inr (11, oX11 ra y51)), (ra 13, .inl (kI, 700, .inl q_tape))]) hk1 ht hP1 hD1
      clear hP hD hPc hDc hFc hJn hP1 hD1 hk1
      have hP : va_P (dC, dI) vwCl [(ra 2, .inl (kI, 8, .inl q_told)), (ra 10, .inl (kI, 6, .inl q_goal)), (m0, .inr (11, oX11 ra y51)), (ra 13, .inl (kI, 700, .inl q_tape))] H := hPa
      have hD : va_D A [(ra 2, .inl (kI, 8, .inl q_told)), (ra 10, .inl (kI, 6, .inl q_goal)), (m0, .inr (11, oX11 ra y51)), (ra 13, .inl (kI, 700, .inl q_tape))] := hDa
      clear hPa hDa
      refine W.widen (k := 0) (n := 0) (Nat.le_of_ble_eq_true rfl) (Nat.le_of_ble_eq_true rfl) ?_
      refine lv_aload_n hx hb dX11_readGoal_28 rfl (lv_at hl 0 rfl) ?_
      obtain ⟨hPc, hDc, hFc, hJn⟩ := cl_a (wc := [(m0, .inr (11, oX11 ra y51)), (ra 2, .inl (kI, 8, .inl q_told))]) (wr := [(ra 10, .inl (kI, 6, .inl q_goal)), (ra 13, .inl (kI, 700, .inl q_tape))]) hP hD hS hA [2, 0] [1, 3] rfl rfl (by decide +kernel)
      refine va_calli (va_runV (As := []) (rest := []) ⟨hx, hb, hml, hown, hts⟩ (s11_routerNow l dC dI kB kI kJ kZ kC kS H.size m0 ra y51 q_told tT nN (nextT tT nN sS) (hq52) (hq_told) (hq56)) (cwV 0 hts gX11_readGoal_X11_routerNow rfl rfl rfl (by decide +kernel) ⟨Nat.le_of_ble_eq_true rfl, Nat.le_of_ble_eq_true rfl⟩) ⟨fun a U g mk q => by obtain ⟨q0, q1, qP, qE, qD⟩ := q; exact ⟨q0, q1, qP, kE_call qE, qD⟩, va_recv hK hP (ci := 11) (q0 := 2) rfl rfl, fun U hU hW => ⟨rfl, by rw [hU], by rw [hU]; exact hPc, kE_warm hW hE, hDc.weaken (fun _ _ _ _ => trivial)⟩⟩ rfl rfl hl.1 rfl (lv_room (Nat.le_of_ble_eq_true rfl)) dX11_readGoal_29 ⟨Nat.le_of_ble_eq_true rfl, Nat.le_of_ble_eq_true rfl⟩) hS (fun q _ h => hFc q h) hFc (fun r62 u t H locs ht hvm w63 hB hz1 hk1 hS => ?_)
      obtain ⟨y64, hq65, hq66, hq67, hq68, hq69, hq70, hq71, hq72, hq73, hP1, hD1⟩ := hB
      try dsimp only at w63
      obtain ⟨hPa, hDa⟩ := hJn (w1 := [(m0, .inr (11, oX11 ra y64)), (ra 2, .inl (kI, 8, .inl q_told))]) hk1 ht hP1 hD1
      clear hP hD hPc hDc hFc hJn hP1 hD1 hk1
      have hP : va_P (dC, dI) vwCl [(ra 10, .inl (kI, 6, .inl q_goal)), (ra 13, .inl (kI, 700, .inl q_tape)), (m0, .inr (11, oX11 ra y64)), (ra 2, .inl (kI, 8, .inl q_told))] H := hPa
      have hD : va_D A [(ra 10, .inl (kI, 6, .inl q_goal)), (ra 13, .inl (kI, 700, .inl q_tape)), (m0, .inr (11, oX11 ra y64)), (ra 2, .inl (kI, 8, .inl q_told))] := hDa
      clear hPa hDa
      refine W.widen (k := 0) (n := 0) (Nat.le_of_ble_eq_true rfl) (Nat.le_of_ble_eq_true rfl) ?_
      have hv9 := w63.2
      refine lv_istore_n (lv' := [(1, .int r62), (0, .ref m0)]) hx hb dX11_readGoal_32 rfl hl (Nat.le_of_ble_eq_true rfl) rfl (fun ls hl => ?_)
      refine lv_iconst (v := 0) hx hb dX11_readGoal_33 ic_0 ?_
      refine lv_istore_n (lv' := [(2, .int 0), (1, .int r62), (0, .ref m0)]) hx hb dX11_readGoal_34 rfl hl (Nat.le_of_ble_eq_true rfl) rfl (fun ls hl => ?_)
      have hPD9 := cl_s (wc := [(m0, .inr (11, oX11 ra y64)), (ra 2, .inl (kI, 8, .inl q_told)), (ra 10, .inl (kI, 6, .inl q_goal)), (ra 13, .inl (kI, 700, .inl q_tape))]) hP hD [2, 3, 0, 1] rfl (by decide +kernel)
      exact hJ35 _ y64 r62 0 _ _ _ (Nat.lt_succ_self _) (hq65) (w63.1) ((iv_w ivk_0 (by decide) (by decide))) (b46) (b48) ((show RRd tT nN y64 (glK (shT 3 q_goal) 0 r62 (lnk1 tT nN sS (q_told 4))) from gl_0 ▸ hq68)) ((show ((0 : Int32)).toInt ≤ (q_told 6).toInt from by rw [show ((0 : Int32)).toInt = 0 from by decide]; exact b46.1)) ((show okT (lnk1 tT nN sS (q_told 4)) → r62 = lnkA tT nN sS from hv9)) ((show ¬ q_told 6 = 3 from c45)) ((show (x0 2).toInt ≤ (y64 2).toInt from by omega)) ((show y64 3 = x0 3 from hq67.trans (hq54))) ((show y64 1 = x0 1 from hq69.trans (hq57))) ((show y64 10 = x0 10 from hq70.trans (hq58))) ((show y64 21 = x0 21 from hq71.trans (hq59))) ((show y64 25 = x0 25 from hq72.trans (hq60))) ((show y64 23 = x0 23 from hq73.trans (hq61))) (hPD9.1) (hPD9.2) hS (lv_sub hl [2, 1, 0] rfl)
    · have b74 : iv 1 5 (x0 8) := iv_neLo c47 (hX 8 : iv 0 5 (x0 8)) ivk_0 (by decide) (by decide)
      have hP9 := hP
      have hD9 := hD
      exact W.vret hx hb hr (fun t ht hW => ⟨⟨(), rfl, trivial, x0, q_told, q_goal, hX, hq_told, hq_goal, (show (x0 2).toInt ≤ (x0 2).toInt from by omega), (show x0 3 = x0 3 from rfl), (show ∀ j : Nat, (j : Int) < (q_told 1).toInt → (q_from j).toInt < (q_to j).toInt from hLT), (show ∀ j : Nat, (j : Int) < (q_told 5).toInt → (q_from (20 + j)).toInt < (q_to (20 + j)).toInt from hLD), (show RRd tT nN x0 (golS tT nN sS (q_told 4) (q_told 6) (shT 3 q_goal)) from (go_in hRr c47) ▸ hRr), (show x0 8 = 0 → q_told = upd q_told 6 (q_told 6 + 1) ∧ q_goal = upd q_goal ((3 + (q_told 6)).toNatClampNeg) (lnkA tT nN sS) from fun w => absurd w c47), (show LowT q_told q_from q_to q_told q_from q_to from low_0), (show x0 1 = x0 1 from rfl), (show x0 10 = x0 10 from rfl), (show x0 21 = x0 21 from rfl), (show x0 25 = x0 25 from rfl), (show x0 23 = x0 23 from rfl), by rw [ht]; exact hP9, hD9⟩, hS.F ht⟩) hS.2.2 dX11_readGoal_23
  · have b75 : iv 3 3 (q_told 6) := iv_eqL c45 ivk_3
    refine lv_aload_n hx hb dX11_readGoal_11 rfl (lv_at hl 0 rfl) ?_
    refine lv_iconst (v := 2) hx hb dX11_readGoal_12 ic_2 ?_
    obtain ⟨hPc, hDc, hFc, hJn⟩ := cl_a (wc := [(m0, .inr (11, oX11 ra x0))]) (wr := [(ra 2, .inl (kI, 8, .inl q_told)), (ra 10, .inl (kI, 6, .inl q_goal)), (ra 13, .inl (kI, 700, .inl q_tape))]) hP hD hS hA [0] [1, 2, 3] rfl rfl (by decide +kernel)
    refine va_callv (va_runV (As := [.int 2]) (rest := []) ⟨hx, hb, hml, hown, hts⟩ (s11_wrong l dC dI kB kI kJ kZ kC kS s.heap.size m0 ra x0 2 tT nN sS (hX) ((iv_w ivk_2 (by decide) (by decide))) (hRr)) (cwV 1 hts gX11_readGoal_X11_wrong rfl rfl rfl (by decide +kernel) ⟨Nat.le_of_ble_eq_true rfl, Nat.le_of_ble_eq_true rfl⟩) ⟨fun a U g mk q => by obtain ⟨q0, q1, qP, qE, qD⟩ := q; exact ⟨q0, q1, qP, kE_call qE, qD⟩, va_recv hK hP (ci := 11) (q0 := 0) rfl rfl, fun U hU hW => ⟨rfl, by rw [hU], by rw [hU]; exact hPc, kE_warm hW hE, hDc.weaken (fun _ _ _ _ => trivial)⟩⟩ rfl rfl hl.1 rfl (lv_room (Nat.le_of_ble_eq_true rfl)) dX11_readGoal_13 ⟨Nat.le_of_ble_eq_true rfl, Nat.le_of_ble_eq_true rfl⟩) hS (fun q _ h => hFc q h) hFc (fun u t H locs ht hvm w77 hB hz1 hk1 hS => ?_)
    obtain ⟨y78, hq79, hq80, hq81, hq82, hq83, hq84, hq85, hq86, hq87, hq88, hP1, hD1⟩ := hB
    try dsimp only at w77
    obtain ⟨hPa, hDa⟩ := hJn (w1 := [(m0, .inr (11, oX11 ra y78))]) hk1 ht hP1 hD1
    clear hP hD hPc hDc hFc hJn hP1 hD1 hk1
    have hP : va_P (dC, dI) vwCl [(ra 2, .inl (kI, 8, .inl q_told)), (ra 10, .inl (kI, 6, .inl q_goal)), (ra 13, .inl (kI, 700, .inl q_tape)), (m0, .inr (11, oX11 ra y78))] H := hPa
    have hD : va_D A [(ra 2, .inl (kI, 8, .inl q_told)), (ra 10, .inl (kI, 6, .inl q_goal)), (ra 13, .inl (kI, 700, .inl q_tape)), (m0, .inr (11, oX11 ra y78))] := hDa
    clear hPa hDa
    refine W.widen (k := 0) (n := 0) (Nat.le_of_ble_eq_true rfl) (Nat.le_of_ble_eq_true rfl) ?_
    refine lv_aload_n hx hb dX11_readGoal_16 rfl (lv_at hl 0 rfl) ?_
    refine va_get (D := (dC, dI)) (ci := 11) (v := .int (y78 8)) (C := RX11) (T := TX11) (N := 61) hx hb hts hin11 hown hK hP 3 rfl rfl 22 (Nat.le_of_ble_eq_true rfl) hw_1 (fun _ h9 => h9) rfl dX11_readGoal_17 ?_
    refine lv_if_eq (tgt := 24) hx hb dX11_readGoal_20 rfl (fun c9 => absurd c9 (iv_ne hq80 ivk_0 (by decide))) (fun _ => ?_)
    have hPD9 := cl_s (wc := [(m0, .inr (11, oX11 ra y78)), (ra 2, .inl (kI, 8, .inl q_told)), (ra 10, .inl (kI, 6, .inl q_goal)), (ra 13, .inl (kI, 700, .inl q_tape))]) hP hD [3, 0, 1, 2] rfl (by decide +kernel)
    have hP9 := hPD9.1
    have hD9 := hPD9.2
    exact W.vret hx hb hr (fun t ht hW => ⟨⟨(), rfl, trivial, y78, q_told, q_goal, hq79, hq_told, hq_goal, (show (x0 2).toInt ≤ (y78 2).toInt from by omega), (show y78 3 = x0 3 from hq82), (show ∀ j : Nat, (j : Int) < (q_told 1).toInt → (q_from j).toInt < (q_to j).toInt from hLT), (show ∀ j : Nat, (j : Int) < (q_told 5).toInt → (q_from (20 + j)).toInt < (q_to (20 + j)).toInt from hLD), (show RRd tT nN y78 (golS tT nN sS (q_told 4) (q_told 6) (shT 3 q_goal)) from it_t (Q := RRd tT nN y78) c45 (hq83)), (show y78 8 = 0 → q_told = upd q_told 6 (q_told 6 + 1) ∧ q_goal = upd q_goal ((3 + (q_told 6)).toNatClampNeg) (lnkA tT nN sS) from fun w => absurd w (rr_nf hq83)), (show LowT q_told q_from q_to q_told q_from q_to from low_0), (show y78 1 = x0 1 from hq84), (show y78 10 = x0 10 from hq85), (show y78 21 = x0 21 from hq86), (show y78 25 = x0 25 from hq87), (show y78 23 = x0 23 from hq88), by rw [ht]; exact hP9, hD9⟩, hS.F ht⟩) hS.2.2 dX11_readGoal_23
