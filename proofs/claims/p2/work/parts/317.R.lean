def rm_s11_isAddress : Room := { frames := 1, cells := 0, slots := 0, locals := 22 }
set_option maxHeartbeats 4000000 in
set_option maxRecDepth 100000 in
theorem s11_isAddress (l : Launch) (dC : Nat → ClassId) (dI : Nat → Nat → Nat) (kB kI kJ kZ kC kS : ClassId) (sz : Nat) (m0 : Nat) (ra : Nat → Nat) (x0 : Nat → Int32) (q_told : Nat → Int32) (p0 : Int32) (hX : fI lX11 hX11 x0) (hq_told : fI lTold hTold q_told) : Met l yX11_isAddress wsX11_isAddress rm_s11_isAddress (va_Pc [.ref m0, .int p0] (fun U => U.heap.size = sz ∧ va_P (dC, dI) vwCl [(m0, .inr (11, oX11 ra x0)), (ra 2, .inl (kI, 8, .inl q_told))] U.heap ∧ kE dC dI kB kI kJ kZ kC kS U ∧ va_D (fun _ => True) [(m0, .inr (11, oX11 ra x0)), (ra 2, .inl (kI, 8, .inl q_told))])) (va_Qi (fun (r : Int32) (_ : Unit) => iv 0 1 r ∧ (r = 0 ∨ iv 0 20 p0)) (fun _ t => va_P (dC, dI) vwCl [(m0, .inr (11, oX11 ra x0)), (ra 2, .inl (kI, 8, .inl q_told))] t.heap ∧ va_D (va_A [(m0, .inr (11, oX11 ra x0)), (ra 2, .inl (kI, 8, .inl q_told))] sz) [(m0, .inr (11, oX11 ra x0)), (ra 2, .inl (kI, 8, .inl q_told))]) (va_A [(m0, .inr (11, oX11 ra x0)), (ra 2, .inl (kI, 8, .inl q_told))] sz)) 0 0 (va_A [(m0, .inr (11, oX11 ra x0)), (ra 2, .inl (kI, 8, .inl q_told))] sz) := by
  refine Met.ofW (cc := cX11_isAddress) (maxL := 2) (ret := (some .boolean)) (by decide) rfl ?_
  intro p e s m args0 below meth c s₁ B hml hv
  obtain ⟨hargs, hsz, hP, hE, hD0⟩ := hv
  have hx := B.exec
  have hb := B.bytes
  have hr := B.returns
  have hts := atoms_spec (ws := wsX11_isAddress) B.pre
  have hown : s.vm.findClass RX11 = some m.cls := findClass_of_methodNamed B.named
  have hlocks := B.notSynchronized
  have hK := hE.1
  have hin11 : ∀ w ∈ wsX110, w ∈ wsX11_isAddress := fun _ h9 => List.mem_cons_of_mem _ (List.mem_append_right _ h9)
  subst hsz
  have hD := hD0.self (sz := s.heap.size)
  generalize hAe : va_A [(m0, .inr (11, oX11 ra x0)), (ra 2, .inl (kI, 8, .inl q_told))] s.heap.size = A at hD ⊢
  have hA : ∀ q : Nat, s.heap.size ≤ q → A q := fun q h => by rw [← hAe]; exact Or.inr h
  have hS : va_S A s.heap s.heap [] := va_S.rf
  have hP : va_P (dC, dI) vwCl [(m0, .inr (11, oX11 ra x0)), (ra 2, .inl (kI, 8, .inl q_told))] s.heap := hP
  have hl := lv_entry ([.ref m0, .int p0]) (n := 2) (Nat.le_of_ble_eq_true rfl)
  have hla : entryFrame m args0 2 = entryFrame m ([.ref m0, .int p0] : List Value).toArray 2 := by rw [hargs]
  rw [hla, lg_entry_eq]
  generalize (lg_sl ([.ref m0, .int p0]) ++ List.replicate (2 - (lg_sl ([.ref m0, .int p0])).length) Slot.unset).toArray = ls at hl ⊢
  have hl : lv_has ls 2 [(0, .ref m0), (1, .int p0)] := hl
  have hJ23 : ∀ (H : Heap) (locs : List Loc) (ls : Array Slot), (x0 1 = x0 1) → va_P (dC, dI) vwCl [(m0, .inr (11, oX11 ra x0)), (ra 2, .inl (kI, 8, .inl q_told))] H → va_D A [(m0, .inr (11, oX11 ra x0)), (ra 2, .inl (kI, 8, .inl q_told))] → va_S A s.heap H locs → lv_has ls 2 [(0, .ref m0), (1, .int p0)] → W p l e (headSpec wsX11_isAddress rm_s11_isAddress).room s m args0 below meth c H locs (0) (0) (MQ below (va_Qi (fun (r : Int32) (_ : Unit) => iv 0 1 r ∧ (r = 0 ∨ iv 0 20 p0)) (fun _ t => va_P (dC, dI) vwCl [(m0, .inr (11, oX11 ra x0)), (ra 2, .inl (kI, 8, .inl q_told))] t.heap ∧ va_D A [(m0, .inr (11, oX11 ra x0)), (ra 2, .inl (kI, 8, .inl q_told))]) A) args0 s 0 0 A) (F0 m 23 ls []) := by
    intro H locs ls htp_23 hP hD hS hl
    refine lv_iconst (v := 0) hx hb dX11_isAddress_23 (by decide) ?_
    have hP9 := hP.sub (ws' := [(m0, .inr (11, oX11 ra x0)), (ra 2, .inl (kI, 8, .inl q_told))]) [0, 1] rfl
    have hD9 := hD.sub (ws' := [(m0, .inr (11, oX11 ra x0)), (ra 2, .inl (kI, 8, .inl q_told))]) [0, 1] (by decide) rfl
    exact W.zret (v := 0) (ty := .boolean) hx hb hr rfl (fun t ht hW => ⟨⟨0, (), rfl, ⟨(iv_w (iv_k (by decide) (by decide) : iv 0 0 0) (by decide) (by decide)), Or.inl rfl⟩, by rw [ht]; exact hP9, hD9⟩, hS.F ht⟩) hS.2.2 dX11_isAddress_24
  refine lv_iload_n hx hb dX11_isAddress_0 rfl (lv_at hl 1 rfl) ?_
  refine lv_iconst (v := 0) hx hb dX11_isAddress_1 (by decide) ?_
  refine lv_aload_n hx hb dX11_isAddress_2 rfl (lv_at hl 0 rfl) ?_
  have hPc := hP.sub (ws' := [(m0, .inr (11, oX11 ra x0)), (ra 2, .inl (kI, 8, .inl q_told))]) [0, 1] rfl
  have hDc := hD.sub (ws' := [(m0, .inr (11, oX11 ra x0)), (ra 2, .inl (kI, 8, .inl q_told))]) [0, 1] (by decide) rfl
  have hFc := va_free (wc := [(m0, .inr (11, oX11 ra x0)), (ra 2, .inl (kI, 8, .inl q_told))]) hD hS hA [0, 1] rfl
  refine va_calli (va_runV (As := []) (rest := [.int 0, .int p0]) ⟨hx, hb, hml, hown, hts⟩ (s11_links l dC dI kB kI kJ kZ kC kS s.heap.size m0 ra x0 q_told (hX) (hq_told)) (cwV 0 hts gX11_isAddress_X11_links rfl rfl rfl (by decide +kernel) ⟨Nat.le_of_ble_eq_true rfl, Nat.le_of_ble_eq_true rfl⟩) ⟨fun a U g mk q => by obtain ⟨q0, q1, qP, qE, qD⟩ := q; exact ⟨q0, q1, qP, kE_call qE, qD⟩, va_recv hK hP (ci := 11) (q0 := 0) rfl rfl, fun U hU hW => ⟨rfl, by rw [hU], by rw [hU]; exact hPc, kE_warm hW hE, hDc.weaken (fun _ _ _ _ => trivial)⟩⟩ rfl rfl hl.1 rfl (lv_room (Nat.le_of_ble_eq_true rfl)) dX11_isAddress_3 ⟨Nat.le_of_ble_eq_true rfl, Nat.le_of_ble_eq_true rfl⟩) hS (fun q _ h => hFc q h) hFc (fun r1 u t H1 locs ht hvm w2 hB hz1 hk1 hS => ?_)
  obtain ⟨hP1, hD1⟩ := hB
  rw [ht] at hP1
  try dsimp only at w2
  obtain ⟨hP, hD⟩ := va_join (wr := []) (w1 := [(m0, .inr (11, oX11 ra x0)), (ra 2, .inl (kI, 8, .inl q_told))]) hP hD [0, 1] [] rfl rfl (by decide) (by decide) hk1 hFc hP1 hD1
  generalize H1 = H at hP hS ⊢
  have hP : va_P (dC, dI) vwCl [(m0, .inr (11, oX11 ra x0)), (ra 2, .inl (kI, 8, .inl q_told))] H := hP
  have hD : va_D A [(m0, .inr (11, oX11 ra x0)), (ra 2, .inl (kI, 8, .inl q_told))] := hD
  refine W.widen (k := 0) (n := 0) (Nat.le_of_ble_eq_true rfl) (Nat.le_of_ble_eq_true rfl) ?_
  subst w2
  have hPc := hP.sub (ws' := []) [] rfl
  have hDc := hD.sub (ws' := []) [] (by decide) rfl
  have hFc := va_free (wc := []) hD hS hA [] rfl
  refine va_calli (va_runS (As := [.int p0, .int 0, .int (q_told 1)]) (rest := []) ⟨hx, hb, hml, hown, hts⟩ (s11_isIn l dC dI kB kI kJ kZ kC kS H.size p0 0 (q_told 1)) (va_cwS 3 hts gX11_isAddress_X11_isIn rfl rfl rfl (by decide +kernel) ⟨Nat.le_of_ble_eq_true rfl, Nat.le_of_ble_eq_true rfl⟩) ⟨fun a U g mk q => by obtain ⟨q0, q1, qP, qE, qD⟩ := q; exact ⟨q0, q1, qP, kE_call qE, qD⟩, fun U hU hW => ⟨rfl, by rw [hU], by rw [hU]; exact hPc, kE_warm hW hE, hDc.weaken (fun _ _ _ _ => trivial)⟩⟩ rfl rfl hl.1 rfl (lv_room (Nat.le_of_ble_eq_true rfl)) dX11_isAddress_6 ⟨Nat.le_of_ble_eq_true rfl, Nat.le_of_ble_eq_true rfl⟩) hS (fun q _ h => hFc q h) hFc (fun r3 u t H1 locs ht hvm w4 hB hz1 hk1 hS => ?_)
  obtain ⟨hP1, hD1⟩ := hB
  rw [ht] at hP1
  try dsimp only at w4
  obtain ⟨hP, hD⟩ := va_join (wr := [(m0, .inr (11, oX11 ra x0)), (ra 2, .inl (kI, 8, .inl q_told))]) (w1 := []) hP hD [] [0, 1] rfl rfl (by decide) (by decide) hk1 hFc hP1 hD1
  generalize H1 = H at hP hS ⊢
  have hP : va_P (dC, dI) vwCl [(m0, .inr (11, oX11 ra x0)), (ra 2, .inl (kI, 8, .inl q_told))] H := hP
  have hD : va_D A [(m0, .inr (11, oX11 ra x0)), (ra 2, .inl (kI, 8, .inl q_told))] := hD
  refine W.widen (k := 0) (n := 0) (Nat.le_of_ble_eq_true rfl) (Nat.le_of_ble_eq_true rfl) ?_
  refine lv_if_eq (tgt := 23) hx hb dX11_isAddress_9 (by decide) (fun c5 => ?_) (fun c5 => ?_)
  · have b6 : iv 0 0 r3 := iv_eqL c5 (iv_k (by decide) (by decide) : iv 0 0 0)
    exact hJ23 _ _ _ ((show x0 1 = x0 1 from rfl)) (hP.sub [0, 1] rfl) (hD.sub [0, 1] (by decide) rfl) hS (lv_sub hl [0, 1] rfl)
  · have b7 : iv 1 1 r3 := iv_neLo c5 w4.1 (iv_k (by decide) (by decide) : iv 0 0 0) (by decide) (by decide)
    have hr8 := (w4.2).resolve_left (iv_ne b7 (iv_k (by decide) (by decide) : iv 0 0 0) (by decide))
    have b9 : iv 0 20 p0 := iv_cap (in_iv hr8 (iv_k (by decide) (by decide) : iv 0 0 0) (hq_told 1 : iv 0 20 (q_told 1))) (iv_t p0) (by decide) (by decide)
    refine lv_aload_n hx hb dX11_isAddress_12 rfl (lv_at hl 0 rfl) ?_
    have hPc := hP.sub (ws' := [(m0, .inr (11, oX11 ra x0)), (ra 2, .inl (kI, 8, .inl q_told))]) [0, 1] rfl
    have hDc := hD.sub (ws' := [(m0, .inr (11, oX11 ra x0)), (ra 2, .inl (kI, 8, .inl q_told))]) [0, 1] (by decide) rfl
    have hFc := va_free (wc := [(m0, .inr (11, oX11 ra x0)), (ra 2, .inl (kI, 8, .inl q_told))]) hD hS hA [0, 1] rfl
    refine va_calli (va_runV (As := []) (rest := []) ⟨hx, hb, hml, hown, hts⟩ (s11_routers l dC dI kB kI kJ kZ kC kS H.size m0 ra x0 q_told (hX) (hq_told)) (cwV 0 hts gX11_isAddress_X11_routers rfl rfl rfl (by decide +kernel) ⟨Nat.le_of_ble_eq_true rfl, Nat.le_of_ble_eq_true rfl⟩) ⟨fun a U g mk q => by obtain ⟨q0, q1, qP, qE, qD⟩ := q; exact ⟨q0, q1, qP, kE_call qE, qD⟩, va_recv hK hP (ci := 11) (q0 := 0) rfl rfl, fun U hU hW => ⟨rfl, by rw [hU], by rw [hU]; exact hPc, kE_warm hW hE, hDc.weaken (fun _ _ _ _ => trivial)⟩⟩ rfl rfl hl.1 rfl (lv_room (Nat.le_of_ble_eq_true rfl)) dX11_isAddress_13 ⟨Nat.le_of_ble_eq_true rfl, Nat.le_of_ble_eq_true rfl⟩) hS (fun q _ h => hFc q h) hFc (fun r10 u t H1 locs ht hvm w11 hB hz1 hk1 hS => ?_)
    obtain ⟨hP1, hD1⟩ := hB
    rw [ht] at hP1
    try dsimp only at w11
    obtain ⟨hP, hD⟩ := va_join (wr := []) (w1 := [(m0, .inr (11, oX11 ra x0)), (ra 2, .inl (kI, 8, .inl q_told))]) hP hD [0, 1] [] rfl rfl (by decide) (by decide) hk1 hFc hP1 hD1
    generalize H1 = H at hP hS ⊢
    have hP : va_P (dC, dI) vwCl [(m0, .inr (11, oX11 ra x0)), (ra 2, .inl (kI, 8, .inl q_told))] H := hP
    have hD : va_D A [(m0, .inr (11, oX11 ra x0)), (ra 2, .inl (kI, 8, .inl q_told))] := hD
    refine W.widen (k := 0) (n := 0) (Nat.le_of_ble_eq_true rfl) (Nat.le_of_ble_eq_true rfl) ?_
    subst w11
    refine lv_if_le (tgt := 23) hx hb dX11_isAddress_16 (by decide) (fun c12 => ?_) (fun c12 => ?_)
    · have b13 : iv 0 0 (q_told 0) := iv_leL c12 (hq_told 0 : iv 0 12 (q_told 0)) (iv_k (by decide) (by decide) : iv 0 0 0) (by decide) (by decide)
      exact hJ23 _ _ _ ((show x0 1 = x0 1 from rfl)) (hP.sub [0, 1] rfl) (hD.sub [0, 1] (by decide) rfl) hS (lv_sub hl [0, 1] rfl)
    · have b14 : iv 1 12 (q_told 0) := iv_ltR (Int32.not_le.mp c12) (iv_k (by decide) (by decide) : iv 0 0 0) (hq_told 0 : iv 0 12 (q_told 0)) (by decide) (by decide)
      refine lv_iconst (v := 1) hx hb dX11_isAddress_19 (by decide) ?_
      refine lv_goto (tgt := 24) hx hb dX11_isAddress_20 (by decide) ?_
      have hP9 := hP.sub (ws' := [(m0, .inr (11, oX11 ra x0)), (ra 2, .inl (kI, 8, .inl q_told))]) [0, 1] rfl
      have hD9 := hD.sub (ws' := [(m0, .inr (11, oX11 ra x0)), (ra 2, .inl (kI, 8, .inl q_told))]) [0, 1] (by decide) rfl
      exact W.zret (v := 1) (ty := .boolean) hx hb hr rfl (fun t ht hW => ⟨⟨1, (), rfl, ⟨(iv_w (iv_k (by decide) (by decide) : iv 1 1 1) (by decide) (by decide)), Or.inr (b9)⟩, by rw [ht]; exact hP9, hD9⟩, hS.F ht⟩) hS.2.2 dX11_isAddress_24
def rm_s11_wasSeen : Room := { frames := 4, cells := 0, slots := 0, locals := 92 }
set_option maxHeartbeats 4000000 in
set_option maxRecDepth 100000 in
theorem s11_wasSeen (l : Launch) (dC : Nat → ClassId) (dI : Nat → Nat → Nat) (kB kI kJ kZ kC kS : ClassId) (sz : Nat) (m0 : Nat) (ra : Nat → Nat) (x0 : Nat → Int32) (q_told : Nat → Int32) (q_now : Nat → Int32) (p0 : Int32) (hX : fI lX11 hX11 x0) (hq_told : fI lTold hTold q_told) (hq_now : fI lNow hNow q_now) : Met l yX11_wasSeen wsX11_wasSeen rm_s11_wasSeen (va_Pc [.ref m0, .int p0] (fun U => U.heap.size = sz ∧ va_P (dC, dI) vwCl [(m0, .inr (11, oX11 ra x0)), (ra 2, .inl (kI, 8, .inl q_told)), (ra 11, .inl (kI, 1019, .inl q_now))] U.heap ∧ kE dC dI kB kI kJ kZ kC kS U ∧ va_D (fun _ => True) [(m0, .inr (11, oX11 ra x0)), (ra 2, .inl (kI, 8, .inl q_told)), (ra 11, .inl (kI, 1019, .inl q_now))])) (va_Qi (fun (r : Int32) (_ : Unit) => iv 0 1 r ∧ (r = 0 ∨ iv 0 20 p0)) (fun _ t => va_P (dC, dI) vwCl [(m0, .inr (11, oX11 ra x0)), (ra 2, .inl (kI, 8, .inl q_told)), (ra 11, .inl (kI, 1019, .inl q_now))] t.heap ∧ va_D (va_A [(m0, .inr (11, oX11 ra x0)), (ra 2, .inl (kI, 8, .inl q_told)), (ra 11, .inl (kI, 1019, .inl q_now))] sz) [(m0, .inr (11, oX11 ra x0)), (ra 2, .inl (kI, 8, .inl q_told)), (ra 11, .inl (kI, 1019, .inl q_now))]) (va_A [(m0, .inr (11, oX11 ra x0)), (ra 2, .inl (kI, 8, .inl q_told)), (ra 11, .inl (kI, 1019, .inl q_now))] sz)) 0 0 (va_A [(m0, .inr (11, oX11 ra x0)), (ra 2, .inl (kI, 8, .inl q_told)), (ra 11, .inl (kI, 1019, .inl q_now))] sz) := by
  refine Met.ofW (cc := cX11_wasSeen) (maxL := 2) (ret := (some .boolean)) (by decide) rfl ?_
  intro p e s m args0 below meth c s₁ B hml hv
  obtain ⟨hargs, hsz, hP, hE, hD0⟩ := hv
  have hx := B.exec
  have hb := B.bytes
  have hr := B.returns
  have hts := atoms_spec (ws := wsX11_wasSeen) B.pre
  have hown : s.vm.findClass RX11 = some m.cls := findClass_of_methodNamed B.named
  have hlocks := B.notSynchronized
  have hK := hE.1
  have hin11 : ∀ w ∈ wsX110, w ∈ wsX11_wasSeen := fun _ h9 => List.mem_cons_of_mem _ (List.mem_append_right _ h9)
  subst hsz
  have hD := hD0.self (sz := s.heap.size)
  generalize hAe : va_A [(m0, .inr (11, oX11 ra x0)), (ra 2, .inl (kI, 8, .inl q_told)), (ra 11, .inl (kI, 1019, .inl q_now))] s.heap.size = A at hD ⊢
  have hA : ∀ q : Nat, s.heap.size ≤ q → A q := fun q h => by rw [← hAe]; exact Or.inr h
  have hS : va_S A s.heap s.heap [] := va_S.rf
  have hP : va_P (dC, dI) vwCl [(m0, .inr (11, oX11 ra x0)), (ra 2, .inl (kI, 8, .inl q_told)), (ra 11, .inl (kI, 1019, .inl q_now))] s.heap := hP
  have hl := lv_entry ([.ref m0, .int p0]) (n := 2) (Nat.le_of_ble_eq_true rfl)
  have hla : entryFrame m args0 2 = entryFrame m ([.ref m0, .int p0] : List Value).toArray 2 := by rw [hargs]
  rw [hla, lg_entry_eq]
  generalize (lg_sl ([.ref m0, .int p0]) ++ List.replicate (2 - (lg_sl ([.ref m0, .int p0])).length) Slot.unset).toArray = ls at hl ⊢
  have hl : lv_has ls 2 [(0, .ref m0), (1, .int p0)] := hl
  have hJ24 : ∀ (H : Heap) (locs : List Loc) (ls : Array Slot), (x0 1 = x0 1) → va_P (dC, dI) vwCl [(m0, .inr (11, oX11 ra x0)), (ra 2, .inl (kI, 8, .inl q_told)), (ra 11, .inl (kI, 1019, .inl q_now))] H → va_D A [(m0, .inr (11, oX11 ra x0)), (ra 2, .inl (kI, 8, .inl q_told)), (ra 11, .inl (kI, 1019, .inl q_now))] → va_S A s.heap H locs → lv_has ls 2 [(0, .ref m0), (1, .int p0)] → W p l e (headSpec wsX11_wasSeen rm_s11_wasSeen).room s m args0 below meth c H locs (0) (0) (MQ below (va_Qi (fun (r : Int32) (_ : Unit) => iv 0 1 r ∧ (r = 0 ∨ iv 0 20 p0)) (fun _ t => va_P (dC, dI) vwCl [(m0, .inr (11, oX11 ra x0)), (ra 2, .inl (kI, 8, .inl q_told)), (ra 11, .inl (kI, 1019, .inl q_now))] t.heap ∧ va_D A [(m0, .inr (11, oX11 ra x0)), (ra 2, .inl (kI, 8, .inl q_told)), (ra 11, .inl (kI, 1019, .inl q_now))]) A) args0 s 0 0 A) (F0 m 24 ls []) := by
    intro H locs ls htp_24 hP hD hS hl
    refine lv_iconst (v := 0) hx hb dX11_wasSeen_24 (by decide) ?_
    have hP9 := hP.sub (ws' := [(m0, .inr (11, oX11 ra x0)), (ra 2, .inl (kI, 8, .inl q_told)), (ra 11, .inl (kI, 1019, .inl q_now))]) [0, 1, 2] rfl
    have hD9 := hD.sub (ws' := [(m0, .inr (11, oX11 ra x0)), (ra 2, .inl (kI, 8, .inl q_told)), (ra 11, .inl (kI, 1019, .inl q_now))]) [0, 1, 2] (by decide) rfl
    exact W.zret (v := 0) (ty := .boolean) hx hb hr rfl (fun t ht hW => ⟨⟨0, (), rfl, ⟨(iv_w (iv_k (by decide) (by decide) : iv 0 0 0) (by decide) (by decide)), Or.inl rfl⟩, by rw [ht]; exact hP9, hD9⟩, hS.F ht⟩) hS.2.2 dX11_wasSeen_25
  refine lv_aload_n hx hb dX11_wasSeen_0 rfl (lv_at hl 0 rfl) ?_
  refine lv_iload_n hx hb dX11_wasSeen_1 rfl (lv_at hl 1 rfl) ?_
  have hPc := hP.sub (ws' := [(m0, .inr (11, oX11 ra x0)), (ra 2, .inl (kI, 8, .inl q_told))]) [0, 1] rfl
  have hDc := hD.sub (ws' := [(m0, .inr (11, oX11 ra x0)), (ra 2, .inl (kI, 8, .inl q_told))]) [0, 1] (by decide) rfl
  have hFc := va_free (wc := [(m0, .inr (11, oX11 ra x0)), (ra 2, .inl (kI, 8, .inl q_told))]) hD hS hA [0, 1] rfl
  refine va_calli (va_runV (As := [.int p0]) (rest := []) ⟨hx, hb, hml, hown, hts⟩ (s11_isAddress l dC dI kB kI kJ kZ kC kS s.heap.size m0 ra x0 q_told p0 (hX) (hq_told)) (cwV 1 hts gX11_wasSeen_X11_isAddress rfl rfl rfl (by decide +kernel) ⟨Nat.le_of_ble_eq_true rfl, Nat.le_of_ble_eq_true rfl⟩) ⟨fun a U g mk q => by obtain ⟨q0, q1, qP, qE, qD⟩ := q; exact ⟨q0, q1, qP, kE_call qE, qD⟩, va_recv hK hP (ci := 11) (q0 := 0) rfl rfl, fun U hU hW => ⟨rfl, by rw [hU], by rw [hU]; exact hPc, kE_warm hW hE, hDc.weaken (fun _ _ _ _ => trivial)⟩⟩ rfl rfl hl.1 rfl (lv_room (Nat.le_of_ble_eq_true rfl)) dX11_wasSeen_2 ⟨Nat.le_of_ble_eq_true rfl, Nat.le_of_ble_eq_true rfl⟩) hS (fun q _ h => hFc q h) hFc (fun r1 u t H1 locs ht hvm w2 hB hz1 hk1 hS => ?_)
  obtain ⟨hP1, hD1⟩ := hB
  rw [ht] at hP1
  try dsimp only at w2
  obtain ⟨hP, hD⟩ := va_join (wr := [(ra 11, .inl (kI, 1019, .inl q_now))]) (w1 := [(m0, .inr (11, oX11 ra x0)), (ra 2, .inl (kI, 8, .inl q_told))]) hP hD [0, 1] [2] rfl rfl (by decide) (by decide) hk1 hFc hP1 hD1
  generalize H1 = H at hP hS ⊢
  have hP : va_P (dC, dI) vwCl [(ra 11, .inl (kI, 1019, .inl q_now)), (m0, .inr (11, oX11 ra x0)), (ra 2, .inl (kI, 8, .inl q_told))] H := hP
  have hD : va_D A [(ra 11, .inl (kI, 1019, .inl q_now)), (m0, .inr (11, oX11 ra x0)), (ra 2, .inl (kI, 8, .inl q_told))] := hD
  refine W.widen (k := 0) (n := 0) (Nat.le_of_ble_eq_true rfl) (Nat.le_of_ble_eq_true rfl) ?_
  refine lv_if_eq (tgt := 24) hx hb dX11_wasSeen_5 (by decide) (fun c3 => ?_) (fun c3 => ?_)
  · have b4 : iv 0 0 r1 := iv_eqL c3 (iv_k (by decide) (by decide) : iv 0 0 0)
    exact hJ24 _ _ _ ((show x0 1 = x0 1 from rfl)) (hP.sub [1, 2, 0] rfl) (hD.sub [1, 2, 0] (by decide) rfl) hS (lv_sub hl [0, 1] rfl)
  · have b5 : iv 1 1 r1 := iv_neLo c3 w2.1 (iv_k (by decide) (by decide) : iv 0 0 0) (by decide) (by decide)
    have b6 : iv 0 20 p0 := (w2.2).resolve_left (iv_ne b5 (iv_k (by decide) (by decide) : iv 0 0 0) (by decide))
    refine lv_aload_n hx hb dX11_wasSeen_8 rfl (lv_at hl 0 rfl) ?_
    have hPc := hP.sub (ws' := [(m0, .inr (11, oX11 ra x0)), (ra 2, .inl (kI, 8, .inl q_told)), (ra 11, .inl (kI, 1019, .inl q_now))]) [1, 2, 0] rfl
    have hDc := hD.sub (ws' := [(m0, .inr (11, oX11 ra x0)), (ra 2, .inl (kI, 8, .inl q_told)), (ra 11, .inl (kI, 1019, .inl q_now))]) [1, 2, 0] (by decide) rfl
    have hFc := va_free (wc := [(m0, .inr (11, oX11 ra x0)), (ra 2, .inl (kI, 8, .inl q_told)), (ra 11, .inl (kI, 1019, .inl q_now))]) hD hS hA [1, 2, 0] rfl
    refine va_calli (va_runV (As := []) (rest := []) ⟨hx, hb, hml, hown, hts⟩ (s11_allSeen l dC dI kB kI kJ kZ kC kS H.size m0 ra x0 q_told q_now (hX) (hq_told) (hq_now)) (cwV 0 hts gX11_wasSeen_X11_allSeen rfl rfl rfl (by decide +kernel) ⟨Nat.le_of_ble_eq_true rfl, Nat.le_of_ble_eq_true rfl⟩) ⟨fun a U g mk q => by obtain ⟨q0, q1, qP, qE, qD⟩ := q; exact ⟨q0, q1, qP, kE_call qE, qD⟩, va_recv hK hP (ci := 11) (q0 := 1) rfl rfl, fun U hU hW => ⟨rfl, by rw [hU], by rw [hU]; exact hPc, kE_warm hW hE, hDc.weaken (fun _ _ _ _ => trivial)⟩⟩ rfl rfl hl.1 rfl (lv_room (Nat.le_of_ble_eq_true rfl)) dX11_wasSeen_9 ⟨Nat.le_of_ble_eq_true rfl, Nat.le_of_ble_eq_true rfl⟩) hS (fun q _ h => hFc q h) hFc (fun r7 u t H1 locs ht hvm w8 hB hz1 hk1 hS => ?_)
    obtain ⟨hP1, hD1⟩ := hB
    rw [ht] at hP1
    try dsimp only at w8
    obtain ⟨hP, hD⟩ := va_join (wr := []) (w1 := [(m0, .inr (11, oX11 ra x0)), (ra 2, .inl (kI, 8, .inl q_told)), (ra 11, .inl (kI, 1019, .inl q_now))]) hP hD [1, 2, 0] [] rfl rfl (by decide) (by decide) hk1 hFc hP1 hD1
    generalize H1 = H at hP hS ⊢
    have hP : va_P (dC, dI) vwCl [(m0, .inr (11, oX11 ra x0)), (ra 2, .inl (kI, 8, .inl q_told)), (ra 11, .inl (kI, 1019, .inl q_now))] H := hP
    have hD : va_D A [(m0, .inr (11, oX11 ra x0)), (ra 2, .inl (kI, 8, .inl q_told)), (ra 11, .inl (kI, 1019, .inl q_now))] := hD
    refine W.widen (k := 0) (n := 0) (Nat.le_of_ble_eq_true rfl) (Nat.le_of_ble_eq_true rfl) ?_
    refine lv_iload_n hx hb dX11_wasSeen_12 rfl (lv_at hl 1 rfl) ?_
    refine lv_ishr hx hb dX11_wasSeen_13 ?_
    refine lv_topi (fun z9 _ => ?_)
    refine lv_iconst (v := 1) hx hb dX11_wasSeen_14 (by decide) ?_
    refine lv_iand hx hb dX11_wasSeen_15 ?_
    refine iv_top (a := 0) (b := 1) (iv_and (m := 1) (by decide) (by decide) (by decide)) (fun z10 b11 => ?_)
    refine lv_iconst (v := 1) hx hb dX11_wasSeen_16 (by decide) ?_
    refine lv_icmp_ne (tgt := 24) hx hb dX11_wasSeen_17 (by decide) (fun c12 => ?_) (fun c12 => ?_)
    · have b13 : iv 0 0 z10 := iv_neHi c12 b11 (iv_k (by decide) (by decide) : iv 1 1 1) (by decide) (by decide)
      exact hJ24 _ _ _ ((show x0 1 = x0 1 from rfl)) (hP.sub [0, 1, 2] rfl) (hD.sub [0, 1, 2] (by decide) rfl) hS (lv_sub hl [0, 1] rfl)
    · have b14 : iv 1 1 z10 := iv_eqL c12 (iv_k (by decide) (by decide) : iv 1 1 1)
      refine lv_iconst (v := 1) hx hb dX11_wasSeen_20 (by decide) ?_
      refine lv_goto (tgt := 25) hx hb dX11_wasSeen_21 (by decide) ?_
      have hP9 := hP.sub (ws' := [(m0, .inr (11, oX11 ra x0)), (ra 2, .inl (kI, 8, .inl q_told)), (ra 11, .inl (kI, 1019, .inl q_now))]) [0, 1, 2] rfl
      have hD9 := hD.sub (ws' := [(m0, .inr (11, oX11 ra x0)), (ra 2, .inl (kI, 8, .inl q_told)), (ra 11, .inl (kI, 1019, .inl q_now))]) [0, 1, 2] (by decide) rfl
      exact W.zret (v := 1) (ty := .boolean) hx hb hr rfl (fun t ht hW => ⟨⟨1, (), rfl, ⟨(iv_w (iv_k (by decide) (by decide) : iv 1 1 1) (by decide) (by decide)), Or.inr (b6)⟩, by rw [ht]; exact hP9, hD9⟩, hS.F ht⟩) hS.2.2 dX11_wasSeen_25
def rm_s11_feed : Room := { frames := 0, cells := 0, slots := 0, locals := 0 }
set_option maxHeartbeats 4000000 in
set_option maxRecDepth 100000 in
theorem s11_feed (l : Launch) (dC : Nat → ClassId) (dI : Nat → Nat → Nat) (kB kI kJ kZ kC kS : ClassId) (sz : Nat) (m0 : Nat) (ra : Nat → Nat) (x0 : Nat → Int32) (q_tape : Nat → Int32) (p0 : Int32) (p1 : Int32) (p2 : Int32) (p3 : Int32) (p4 : Int32) (hX : fI lX11 hX11 x0) (hq_tape : fI (fun _ => 0) (fun _ => 255) q_tape) : Met l yX11_feed wsX11_feed rm_s11_feed (va_Pc [.ref m0, .int p0, .int p1, .int p2, .int p3, .int p4] (fun U => U.heap.size = sz ∧ va_P (dC, dI) vwCl [(m0, .inr (11, oX11 ra x0)), (ra 13, .inl (kI, 700, .inl q_tape))] U.heap ∧ kE dC dI kB kI kJ kZ kC kS U ∧ va_D (fun _ => True) [(m0, .inr (11, oX11 ra x0)), (ra 13, .inl (kI, 700, .inl q_tape))])) (va_Qi (fun (r : Int32) (_ : Unit) => iv (-1) 700 r) (fun _ t => ∃ (x0' : Nat → Int32) (q_tape' : Nat → Int32), fI lX11 hX11 x0' ∧ fI (fun _ => 0) (fun _ => 255) q_tape' ∧ va_P (dC, dI) vwCl [(m0, .inr (11, oX11 ra x0')), (ra 13, .inl (kI, 700, .inl q_tape'))] t.heap ∧ va_D (va_A [(m0, .inr (11, oX11 ra x0)), (ra 13, .inl (kI, 700, .inl q_tape))] sz) [(m0, .inr (11, oX11 ra x0')), (ra 13, .inl (kI, 700, .inl q_tape'))]) (va_A [(m0, .inr (11, oX11 ra x0)), (ra 13, .inl (kI, 700, .inl q_tape))] sz)) 0 0 (va_A [(m0, .inr (11, oX11 ra x0)), (ra 13, .inl (kI, 700, .inl q_tape))] sz) := by
  refine Met.ofW (cc := cX11_feed) (maxL := 8) (ret := (some .int)) (by decide) rfl ?_
  intro p e s m args0 below meth c s₁ B hml hv
  obtain ⟨hargs, hsz, hP, hE, hD0⟩ := hv
  have hx := B.exec
  have hb := B.bytes
  have hr := B.returns
  have hts := atoms_spec (ws := wsX11_feed) B.pre
  have hown : s.vm.findClass RX11 = some m.cls := findClass_of_methodNamed B.named
  have hlocks := B.notSynchronized
  have hK := hE.1
  have hin11 : ∀ w ∈ wsX110, w ∈ wsX11_feed := fun _ h9 => List.mem_cons_of_mem _ (List.mem_append_right _ h9)
  have hw_0 := hts (.fieldLink RX11 145 "PathProberModel" "taped" "I") (List.mem_of_getElem? (i := 2) (by decide +kernel))
  have hw_1 := hts (.fieldLink RX11 66 "PathProberModel" "tape" "[I") (List.mem_of_getElem? (i := 3) (by decide +kernel))
  have hw_2 := hts (.fieldLink RX11 142 "PathProberModel" "code" "I") (List.mem_of_getElem? (i := 1) (by decide +kernel))
  subst hsz
  have hD := hD0.self (sz := s.heap.size)
  generalize hAe : va_A [(m0, .inr (11, oX11 ra x0)), (ra 13, .inl (kI, 700, .inl q_tape))] s.heap.size = A at hD ⊢
  have hA : ∀ q : Nat, s.heap.size ≤ q → A q := fun q h => by rw [← hAe]; exact Or.inr h
  have hS : va_S A s.heap s.heap [] := va_S.rf
  have hP : va_P (dC, dI) vwCl [(m0, .inr (11, oX11 ra x0)), (ra 13, .inl (kI, 700, .inl q_tape))] s.heap := hP
  have hl := lv_entry ([.ref m0, .int p0, .int p1, .int p2, .int p3, .int p4]) (n := 8) (Nat.le_of_ble_eq_true rfl)
  have hla : entryFrame m args0 8 = entryFrame m ([.ref m0, .int p0, .int p1, .int p2, .int p3, .int p4] : List Value).toArray 8 := by rw [hargs]
  rw [hla, lg_entry_eq]
  generalize (lg_sl ([.ref m0, .int p0, .int p1, .int p2, .int p3, .int p4]) ++ List.replicate (8 - (lg_sl ([.ref m0, .int p0, .int p1, .int p2, .int p3, .int p4])).length) Slot.unset).toArray = ls at hl ⊢
  have hl : lv_has ls 8 [(0, .ref m0), (1, .int p0), (2, .int p1), (3, .int p2), (4, .int p3), (5, .int p4)] := hl
  have hJ23 : ∀ (n : Nat) (y23_0 : Nat → Int32) (g23_1 : Nat → Int32) (v23_loc6 : Int32) (H : Heap) (locs : List Loc) (ls : Array Slot), (20 - v23_loc6.toInt).toNat < n → fI lX11 hX11 y23_0 → fI (fun _ => 0) (fun _ => 255) g23_1 → iv 0 20 v23_loc6 → iv 0 0 (y23_0 0) → iv 20 700 ((x0 1) + 20) → ((y23_0 1).toInt = (x0 1).toInt + v23_loc6.toInt) → ((x0 1).toInt + 20 ≤ 700) → va_P (dC, dI) vwCl [(m0, .inr (11, oX11 ra y23_0)), (ra 13, .inl (kI, 700, .inl g23_1))] H → va_D A [(m0, .inr (11, oX11 ra y23_0)), (ra 13, .inl (kI, 700, .inl g23_1))] → va_S A s.heap H locs → lv_has ls 8 [(0, .ref m0), (1, .int p0), (2, .int p1), (3, .int p2), (4, .int p3), (5, .int p4), (6, .int v23_loc6)] → W p l e (headSpec wsX11_feed rm_s11_feed).room s m args0 below meth c H locs (0) (0) (MQ below (va_Qi (fun (r : Int32) (_ : Unit) => iv (-1) 700 r) (fun _ t => ∃ (x0' : Nat → Int32) (q_tape' : Nat → Int32), fI lX11 hX11 x0' ∧ fI (fun _ => 0) (fun _ => 255) q_tape' ∧ va_P (dC, dI) vwCl [(m0, .inr (11, oX11 ra x0')), (ra 13, .inl (kI, 700, .inl q_tape'))] t.heap ∧ va_D A [(m0, .inr (11, oX11 ra x0')), (ra 13, .inl (kI, 700, .inl q_tape'))]) A) args0 s 0 0 A) (F0 m 23 ls []) := by
    intro n
    induction n with
    | zero => intro y23_0 g23_1 v23_loc6 H locs ls hm23; exact absurd hm23 (Nat.not_lt_zero _)
    | succ n ih23 =>
      intro y23_0 g23_1 v23_loc6 H locs ls hm23 hI23_0 hI23_1 h23_3 h23_4 h23_5 hfd_23 hro_23 hP hD hS hl
      refine lv_iload hx hb dX11_feed_23 (lv_at hl 6 rfl) ?_
      refine lv_bipush (v := 20) hx hb dX11_feed_25 (by decide) ?_
      refine lv_icmp_ge (tgt := 120) hx hb dX11_feed_27 (by decide) (fun c1 => ?_) (fun c1 => ?_)
      · have b2 : iv 20 20 v23_loc6 := iv_leR c1 (iv_k (by decide) (by decide) : iv 20 20 20) h23_3 (by decide) (by decide)
        refine lv_aload_n hx hb dX11_feed_120 rfl (lv_at hl 0 rfl) ?_
        refine va_get (D := (dC, dI)) (ci := 11) (v := .int (y23_0 1)) (C := RX11) (T := TX11) (N := 61) hx hb hts hin11 hown hK hP 0 rfl rfl 15 (by decide) hw_0 (fun _ h9 => h9) rfl dX11_feed_121 ?_
        have hP9 := hP.sub (ws' := [(m0, .inr (11, oX11 ra y23_0)), (ra 13, .inl (kI, 700, .inl g23_1))]) [0, 1] rfl
        have hD9 := hD.sub (ws' := [(m0, .inr (11, oX11 ra y23_0)), (ra 13, .inl (kI, 700, .inl g23_1))]) [0, 1] (by decide) rfl
        exact W.iret (v := y23_0 1) hx hb hr (fun t ht hW => ⟨⟨y23_0 1, (), rfl, (iv_w (hI23_0 1 : iv 0 700 (y23_0 1)) (by decide) (by decide)), y23_0, g23_1, hI23_0, hI23_1, by rw [ht]; exact hP9, hD9⟩, hS.F ht⟩) hS.2.2 dX11_feed_124
      · have b3 : iv 0 19 v23_loc6 := iv_ltL (Int32.not_le.mp c1) h23_3 (iv_k (by decide) (by decide) : iv 20 20 20) (by decide) (by decide)
        refine lv_iload hx hb dX11_feed_30 (lv_at hl 6 rfl) ?_
        refine lv_iconst (v := 4) hx hb dX11_feed_32 (by decide) ?_
        refine lv_icmp_ge (tgt := 40) hx hb dX11_feed_33 (by decide) (fun c4 => ?_) (fun c4 => ?_)
        · have b5 : iv 4 19 v23_loc6 := iv_leR c4 (iv_k (by decide) (by decide) : iv 4 4 4) b3 (by decide) (by decide)
          refine lv_iload hx hb dX11_feed_40 (lv_at hl 6 rfl) ?_
          refine lv_bipush (v := 8) hx hb dX11_feed_42 (by decide) ?_
          refine lv_icmp_ge (tgt := 51) hx hb dX11_feed_44 (by decide) (fun c6 => ?_) (fun c6 => ?_)
          · have b7 : iv 8 19 v23_loc6 := iv_leR c6 (iv_k (by decide) (by decide) : iv 8 8 8) b5 (by decide) (by decide)
            refine lv_iload hx hb dX11_feed_51 (lv_at hl 6 rfl) ?_
            refine lv_bipush (v := 12) hx hb dX11_feed_53 (by decide) ?_
            refine lv_icmp_ge (tgt := 62) hx hb dX11_feed_55 (by decide) (fun c8 => ?_) (fun c8 => ?_)
            · have b9 : iv 12 19 v23_loc6 := iv_leR c8 (iv_k (by decide) (by decide) : iv 12 12 12) b7 (by decide) (by decide)
              refine lv_iload hx hb dX11_feed_62 (lv_at hl 6 rfl) ?_
              refine lv_bipush (v := 16) hx hb dX11_feed_64 (by decide) ?_
              refine lv_icmp_ge (tgt := 74) hx hb dX11_feed_66 (by decide) (fun c10 => ?_) (fun c10 => ?_)
              · have b11 : iv 16 19 v23_loc6 := iv_leR c10 (iv_k (by decide) (by decide) : iv 16 16 16) b9 (by decide) (by decide)
                refine lv_iload hx hb dX11_feed_74 (lv_at hl 5 rfl) ?_
                refine lv_istore (lv' := [(7, .int p4), (0, .ref m0), (1, .int p0), (2, .int p1), (3, .int p2), (4, .int p3), (5, .int p4), (6, .int v23_loc6)]) hx hb dX11_feed_76 hl (by decide) rfl (fun ls hl => ?_)
                have b12 : iv 0 699 (y23_0 1) := feed_699 hfd_23 hro_23 (hI23_0 1 : iv 0 700 (y23_0 1)) (iv_w b11 (by decide) (by decide))
                refine lv_aload_n hx hb dX11_feed_78 rfl (lv_at hl 1 rfl) ?_
                refine va_get (D := (dC, dI)) (ci := 11) (v := .ref (ra 13)) (C := RX11) (T := TX11) (N := 61) hx hb hts hin11 hown hK hP 0 rfl rfl 14 (by decide) hw_1 (fun _ h9 => h9) rfl dX11_feed_79 ?_
                refine lv_aload_n hx hb dX11_feed_82 rfl (lv_at hl 1 rfl) ?_
                refine va_get (D := (dC, dI)) (ci := 11) (v := .int (y23_0 1)) (C := RX11) (T := TX11) (N := 61) hx hb hts hin11 hown hK hP 0 rfl rfl 15 (by decide) hw_0 (fun _ h9 => h9) rfl dX11_feed_83 ?_
                refine lv_iload hx hb dX11_feed_86 (lv_at hl 0 rfl) ?_
                refine lv_bipush (v := 24) hx hb dX11_feed_88 (by decide) ?_
                refine lv_bipush (v := 8) hx hb dX11_feed_90 (by decide) ?_
                refine lv_iload hx hb dX11_feed_92 (lv_at hl 7 rfl) ?_
                refine lv_iconst (v := 4) hx hb dX11_feed_94 (by decide) ?_
                refine lv_irem hx hb dX11_feed_95 (by decide) ?_
                refine iv_top (a := 0) (b := 3) (iv_rem b11 (iv_k (by decide) (by decide) : iv 4 4 4) (by decide) (by decide) (by decide) (by decide)) (fun z13 b14 => ?_)
                refine lv_imul hx hb dX11_feed_96 ?_
                refine iv_top (a := 0) (b := 24) (iv_mul (iv_k (by decide) (by decide) : iv 8 8 8) b14 (by decide) (by decide) (by decide) (by decide) (by decide)) (fun z15 b16 => ?_)
                refine lv_isub hx hb dX11_feed_97 ?_
                refine iv_top (a := 0) (b := 24) (iv_sub (iv_k (by decide) (by decide) : iv 24 24 24) b16 (by decide) (by decide) (by decide) (by decide)) (fun z17 b18 => ?_)
                refine lv_ishr hx hb dX11_feed_98 ?_
                refine lv_topi (fun z19 _ => ?_)
                refine lv_sipush (v := 255) hx hb dX11_feed_99 (by decide) ?_
                refine lv_iand hx hb dX11_feed_102 ?_
                refine iv_top (a := 0) (b := 255) (iv_and (m := 255) (by decide) (by decide) (by decide)) (fun z20 b21 => ?_)
                refine va_iast hx hb hK hP hD hS 1 1 rfl rfl (iv_in b12 (by decide) (by decide)) dX11_feed_103 (fun H locs hP hD hS => ?_)
                have hP : va_P (dC, dI) vwCl [(m0, .inr (11, oX11 ra y23_0)), (ra 13, .inl (kI, 700, .inl (upd g23_1 (y23_0 1).toNatClampNeg z20)))] H := hP
                have hD : va_D A [(m0, .inr (11, oX11 ra y23_0)), (ra 13, .inl (kI, 700, .inl (upd g23_1 (y23_0 1).toNatClampNeg z20)))] := hD
                have hf23 : fI (fun _ => 0) (fun _ => 255) (upd g23_1 (y23_0 1).toNatClampNeg z20) := fI_u hI23_1 (k := (y23_0 1).toNatClampNeg) (b21)
                generalize (upd g23_1 (y23_0 1).toNatClampNeg z20) = f22 at hP hD hf23
                refine lv_aload_n hx hb dX11_feed_104 rfl (lv_at hl 1 rfl) ?_
                refine lv_dup hx hb dX11_feed_105 rfl ?_
                refine va_get (D := (dC, dI)) (ci := 11) (v := .int (y23_0 1)) (C := RX11) (T := TX11) (N := 61) hx hb hts hin11 hown hK hP 0 rfl rfl 15 (by decide) hw_0 (fun _ h9 => h9) rfl dX11_feed_106 ?_
                refine lv_iconst (v := 1) hx hb dX11_feed_109 (by decide) ?_
                refine lv_iadd hx hb dX11_feed_110 ?_
                have b24 : iv 1 700 ((y23_0 1) + 1) := iv_add b12 (iv_k (by decide) (by decide) : iv 1 1 1) (by decide) (by decide) (by decide) (by decide)
                have t25 : ((y23_0 1) + 1).toInt = (y23_0 1).toInt + 1 := iv_addc b12 (by decide) (by decide) (by decide)
                refine va_put (D := (dC, dI)) (ci := 11) (v := .int ((y23_0 1) + 1)) (ty := .int) (C := RX11) (T := TX11) (N := 61) hx hb hts hin11 tyX11 tyX11_ok nmX11 hown hK hP hD hS 0 rfl rfl 15 (by decide) hw_0 (fun _ h9 => h9) rfl (by decide +kernel) rfl rfl (Nat.le_of_ble_eq_true rfl) dX11_feed_111 (fun H locs hP hD hS => ?_)
                have hP : va_P (dC, dI) vwCl [(m0, .inr (11, oX11 ra (upd y23_0 1 ((y23_0 1) + 1)))), (ra 13, .inl (kI, 700, .inl f22))] H := hP
                have hD : va_D A [(m0, .inr (11, oX11 ra (upd y23_0 1 ((y23_0 1) + 1)))), (ra 13, .inl (kI, 700, .inl f22))] := hD
                refine lv_iinc (v := v23_loc6 + Int32.ofInt 1) (lv' := [(6, .int (v23_loc6 + Int32.ofInt 1)), (7, .int p4), (0, .ref m0), (1, .int p0), (2, .int p1), (3, .int p2), (4, .int p3), (5, .int p4)]) hx hb dX11_feed_114 hl (k := 7) rfl (rfl) (by decide) rfl (fun ls hl => ?_)
                have b26 : iv 17 20 (v23_loc6 + Int32.ofInt 1) := iv_add b11 (iv_k (by decide) (by decide) : iv 1 1 (Int32.ofInt 1)) (by decide) (by decide) (by decide) (by decide)
                have t27 : (v23_loc6 + Int32.ofInt 1).toInt = v23_loc6.toInt + 1 := iv_inc 1 b11 (by decide) (by decide) (by decide) (by decide)
                refine lv_goto (tgt := 23) hx hb dX11_feed_117 (by decide) ?_
                exact ih23 (upd y23_0 1 ((y23_0 1) + 1)) f22 (v23_loc6 + Int32.ofInt 1) _ _ _ (ms_up (c := 1) (d := 0) b11 hm23 (by decide) (iv_inc 1 b11 (by decide) (by decide) (by decide) (by decide)) (by decide) rfl) ((fI_u hI23_0 (k := 1) ((iv_w b24 (by decide) (by decide))))) (hf23) ((iv_w b26 (by decide) (by decide))) (h23_4) (h23_5) ((show ((y23_0 1) + 1).toInt = (x0 1).toInt + (v23_loc6 + Int32.ofInt 1).toInt from by have q5 := hfd_23; omega)) ((show (x0 1).toInt + 20 ≤ 700 from hro_23)) (hP.sub [0, 1] rfl) (hD.sub [0, 1] (by decide) rfl) hS (lv_sub hl [2, 3, 4, 5, 6, 7, 0] rfl)
              · have b28 : iv 12 15 v23_loc6 := iv_ltL (Int32.not_le.mp c10) b9 (iv_k (by decide) (by decide) : iv 16 16 16) (by decide) (by decide)
                refine lv_iload hx hb dX11_feed_69 (lv_at hl 4 rfl) ?_
                refine lv_goto (tgt := 76) hx hb dX11_feed_71 (by decide) ?_
                refine lv_istore (lv' := [(7, .int p3), (0, .ref m0), (1, .int p0), (2, .int p1), (3, .int p2), (4, .int p3), (5, .int p4), (6, .int v23_loc6)]) hx hb dX11_feed_76 hl (by decide) rfl (fun ls hl => ?_)
                have b29 : iv 0 699 (y23_0 1) := feed_699 hfd_23 hro_23 (hI23_0 1 : iv 0 700 (y23_0 1)) (iv_w b28 (by decide) (by decide))
                refine lv_aload_n hx hb dX11_feed_78 rfl (lv_at hl 1 rfl) ?_
                refine va_get (D := (dC, dI)) (ci := 11) (v := .ref (ra 13)) (C := RX11) (T := TX11) (N := 61) hx hb hts hin11 hown hK hP 0 rfl rfl 14 (by decide) hw_1 (fun _ h9 => h9) rfl dX11_feed_79 ?_
                refine lv_aload_n hx hb dX11_feed_82 rfl (lv_at hl 1 rfl) ?_
                refine va_get (D := (dC, dI)) (ci := 11) (v := .int (y23_0 1)) (C := RX11) (T := TX11) (N := 61) hx hb hts hin11 hown hK hP 0 rfl rfl 15 (by decide) hw_0 (fun _ h9 => h9) rfl dX11_feed_83 ?_
                refine lv_iload hx hb dX11_feed_86 (lv_at hl 0 rfl) ?_
                refine lv_bipush (v := 24) hx hb dX11_feed_88 (by decide) ?_
                refine lv_bipush (v := 8) hx hb dX11_feed_90 (by decide) ?_
                refine lv_iload hx hb dX11_feed_92 (lv_at hl 7 rfl) ?_
                refine lv_iconst (v := 4) hx hb dX11_feed_94 (by decide) ?_
                refine lv_irem hx hb dX11_feed_95 (by decide) ?_
                refine iv_top (a := 0) (b := 3) (iv_rem b28 (iv_k (by decide) (by decide) : iv 4 4 4) (by decide) (by decide) (by decide) (by decide)) (fun z30 b31 => ?_)
                refine lv_imul hx hb dX11_feed_96 ?_
                refine iv_top (a := 0) (b := 24) (iv_mul (iv_k (by decide) (by decide) : iv 8 8 8) b31 (by decide) (by decide) (by decide) (by decide) (by decide)) (fun z32 b33 => ?_)
                refine lv_isub hx hb dX11_feed_97 ?_
                refine iv_top (a := 0) (b := 24) (iv_sub (iv_k (by decide) (by decide) : iv 24 24 24) b33 (by decide) (by decide) (by decide) (by decide)) (fun z34 b35 => ?_)
                refine lv_ishr hx hb dX11_feed_98 ?_
                refine lv_topi (fun z36 _ => ?_)
                refine lv_sipush (v := 255) hx hb dX11_feed_99 (by decide) ?_
                refine lv_iand hx hb dX11_feed_102 ?_
                refine iv_top (a := 0) (b := 255) (iv_and (m := 255) (by decide) (by decide) (by decide)) (fun z37 b38 => ?_)
                refine va_iast hx hb hK hP hD hS 1 1 rfl rfl (iv_in b29 (by decide) (by decide)) dX11_feed_103 (fun H locs hP hD hS => ?_)
                have hP : va_P (dC, dI) vwCl [(m0, .inr (11, oX11 ra y23_0)), (ra 13, .inl (kI, 700, .inl (upd g23_1 (y23_0 1).toNatClampNeg z37)))] H := hP
                have hD : va_D A [(m0, .inr (11, oX11 ra y23_0)), (ra 13, .inl (kI, 700, .inl (upd g23_1 (y23_0 1).toNatClampNeg z37)))] := hD
                have hf40 : fI (fun _ => 0) (fun _ => 255) (upd g23_1 (y23_0 1).toNatClampNeg z37) := fI_u hI23_1 (k := (y23_0 1).toNatClampNeg) (b38)
                generalize (upd g23_1 (y23_0 1).toNatClampNeg z37) = f39 at hP hD hf40
                refine lv_aload_n hx hb dX11_feed_104 rfl (lv_at hl 1 rfl) ?_
                refine lv_dup hx hb dX11_feed_105 rfl ?_
                refine va_get (D := (dC, dI)) (ci := 11) (v := .int (y23_0 1)) (C := RX11) (T := TX11) (N := 61) hx hb hts hin11 hown hK hP 0 rfl rfl 15 (by decide) hw_0 (fun _ h9 => h9) rfl dX11_feed_106 ?_
                refine lv_iconst (v := 1) hx hb dX11_feed_109 (by decide) ?_
                refine lv_iadd hx hb dX11_feed_110 ?_
                have b41 : iv 1 700 ((y23_0 1) + 1) := iv_add b29 (iv_k (by decide) (by decide) : iv 1 1 1) (by decide) (by decide) (by decide) (by decide)
                have t42 : ((y23_0 1) + 1).toInt = (y23_0 1).toInt + 1 := iv_addc b29 (by decide) (by decide) (by decide)
                refine va_put (D := (dC, dI)) (ci := 11) (v := .int ((y23_0 1) + 1)) (ty := .int) (C := RX11) (T := TX11) (N := 61) hx hb hts hin11 tyX11 tyX11_ok nmX11 hown hK hP hD hS 0 rfl rfl 15 (by decide) hw_0 (fun _ h9 => h9) rfl (by decide +kernel) rfl rfl (Nat.le_of_ble_eq_true rfl) dX11_feed_111 (fun H locs hP hD hS => ?_)
                have hP : va_P (dC, dI) vwCl [(m0, .inr (11, oX11 ra (upd y23_0 1 ((y23_0 1) + 1)))), (ra 13, .inl (kI, 700, .inl f39))] H := hP
                have hD : va_D A [(m0, .inr (11, oX11 ra (upd y23_0 1 ((y23_0 1) + 1)))), (ra 13, .inl (kI, 700, .inl f39))] := hD
                refine lv_iinc (v := v23_loc6 + Int32.ofInt 1) (lv' := [(6, .int (v23_loc6 + Int32.ofInt 1)), (7, .int p3), (0, .ref m0), (1, .int p0), (2, .int p1), (3, .int p2), (4, .int p3), (5, .int p4)]) hx hb dX11_feed_114 hl (k := 7) rfl (rfl) (by decide) rfl (fun ls hl => ?_)
                have b43 : iv 13 16 (v23_loc6 + Int32.ofInt 1) := iv_add b28 (iv_k (by decide) (by decide) : iv 1 1 (Int32.ofInt 1)) (by decide) (by decide) (by decide) (by decide)
                have t44 : (v23_loc6 + Int32.ofInt 1).toInt = v23_loc6.toInt + 1 := iv_inc 1 b28 (by decide) (by decide) (by decide) (by decide)
                refine lv_goto (tgt := 23) hx hb dX11_feed_117 (by decide) ?_
                exact ih23 (upd y23_0 1 ((y23_0 1) + 1)) f39 (v23_loc6 + Int32.ofInt 1) _ _ _ (ms_up (c := 1) (d := 0) b28 hm23 (by decide) (iv_inc 1 b28 (by decide) (by decide) (by decide) (by decide)) (by decide) rfl) ((fI_u hI23_0 (k := 1) ((iv_w b41 (by decide) (by decide))))) (hf40) ((iv_w b43 (by decide) (by decide))) (h23_4) (h23_5) ((show ((y23_0 1) + 1).toInt = (x0 1).toInt + (v23_loc6 + Int32.ofInt 1).toInt from by have q5 := hfd_23; omega)) ((show (x0 1).toInt + 20 ≤ 700 from hro_23)) (hP.sub [0, 1] rfl) (hD.sub [0, 1] (by decide) rfl) hS (lv_sub hl [2, 3, 4, 5, 6, 7, 0] rfl)
            · have b45 : iv 8 11 v23_loc6 := iv_ltL (Int32.not_le.mp c8) b7 (iv_k (by decide) (by decide) : iv 12 12 12) (by decide) (by decide)
              refine lv_iload_n hx hb dX11_feed_58 rfl (lv_at hl 3 rfl) ?_
              refine lv_goto (tgt := 76) hx hb dX11_feed_59 (by decide) ?_
              refine lv_istore (lv' := [(7, .int p2), (0, .ref m0), (1, .int p0), (2, .int p1), (3, .int p2), (4, .int p3), (5, .int p4), (6, .int v23_loc6)]) hx hb dX11_feed_76 hl (by decide) rfl (fun ls hl => ?_)
              have b46 : iv 0 699 (y23_0 1) := feed_699 hfd_23 hro_23 (hI23_0 1 : iv 0 700 (y23_0 1)) (iv_w b45 (by decide) (by decide))
              refine lv_aload_n hx hb dX11_feed_78 rfl (lv_at hl 1 rfl) ?_
              refine va_get (D := (dC, dI)) (ci := 11) (v := .ref (ra 13)) (C := RX11) (T := TX11) (N := 61) hx hb hts hin11 hown hK hP 0 rfl rfl 14 (by decide) hw_1 (fun _ h9 => h9) rfl dX11_feed_79 ?_
              refine lv_aload_n hx hb dX11_feed_82 rfl (lv_at hl 1 rfl) ?_
              refine va_get (D := (dC, dI)) (ci := 11) (v := .int (y23_0 1)) (C := RX11) (T := TX11) (N := 61) hx hb hts hin11 hown hK hP 0 rfl rfl 15 (by decide) hw_0 (fun _ h9 => h9) rfl dX11_feed_83 ?_
              refine lv_iload hx hb dX11_feed_86 (lv_at hl 0 rfl) ?_
              refine lv_bipush (v := 24) hx hb dX11_feed_88 (by decide) ?_
              refine lv_bipush (v := 8) hx hb dX11_feed_90 (by decide) ?_
              refine lv_iload hx hb dX11_feed_92 (lv_at hl 7 rfl) ?_
              refine lv_iconst (v := 4) hx hb dX11_feed_94 (by decide) ?_
              refine lv_irem hx hb dX11_feed_95 (by decide) ?_
              refine iv_top (a := 0) (b := 3) (iv_rem b45 (iv_k (by decide) (by decide) : iv 4 4 4) (by decide) (by decide) (by decide) (by decide)) (fun z47 b48 => ?_)
              refine lv_imul hx hb dX11_feed_96 ?_
              refine iv_top (a := 0) (b := 24) (iv_mul (iv_k (by decide) (by decide) : iv 8 8 8) b48 (by decide) (by decide) (by decide) (by decide) (by decide)) (fun z49 b50 => ?_)
              refine lv_isub hx hb dX11_feed_97 ?_
              refine iv_top (a := 0) (b := 24) (iv_sub (iv_k (by decide) (by decide) : iv 24 24 24) b50 (by decide) (by decide) (by decide) (by decide)) (fun z51 b52 => ?_)
              refine lv_ishr hx hb dX11_feed_98 ?_
              refine lv_topi (fun z53 _ => ?_)
              refine lv_sipush (v := 255) hx hb dX11_feed_99 (by decide) ?_
              refine lv_iand hx hb dX11_feed_102 ?_
              refine iv_top (a := 0) (b := 255) (iv_and (m := 255) (by decide) (by decide) (by decide)) (fun z54 b55 => ?_)
              refine va_iast hx hb hK hP hD hS 1 1 rfl rfl (iv_in b46 (by decide) (by decide)) dX11_feed_103 (fun H locs hP hD hS => ?_)
              have hP : va_P (dC, dI) vwCl [(m0, .inr (11, oX11 ra y23_0)), (ra 13, .inl (kI, 700, .inl (upd g23_1 (y23_0 1).toNatClampNeg z54)))] H := hP
              have hD : va_D A [(m0, .inr (11, oX11 ra y23_0)), (ra 13, .inl (kI, 700, .inl (upd g23_1 (y23_0 1).toNatClampNeg z54)))] := hD
              have hf57 : fI (fun _ => 0) (fun _ => 255) (upd g23_1 (y23_0 1).toNatClampNeg z54) := fI_u hI23_1 (k := (y23_0 1).toNatClampNeg) (b55)
              generalize (upd g23_1 (y23_0 1).toNatClampNeg z54) = f56 at hP hD hf57
              refine lv_aload_n hx hb dX11_feed_104 rfl (lv_at hl 1 rfl) ?_
              refine lv_dup hx hb dX11_feed_105 rfl ?_
              refine va_get (D := (dC, dI)) (ci := 11) (v := .int (y23_0 1)) (C := RX11) (T := TX11) (N := 61) hx hb hts hin11 hown hK hP 0 rfl rfl 15 (by decide) hw_0 (fun _ h9 => h9) rfl dX11_feed_106 ?_
              refine lv_iconst (v := 1) hx hb dX11_feed_109 (by decide) ?_
              refine lv_iadd hx hb dX11_feed_110 ?_
              have b58 : iv 1 700 ((y23_0 1) + 1) := iv_add b46 (iv_k (by decide) (by decide) : iv 1 1 1) (by decide) (by decide) (by decide) (by decide)
              have t59 : ((y23_0 1) + 1).toInt = (y23_0 1).toInt + 1 := iv_addc b46 (by decide) (by decide) (by decide)
              refine va_put (D := (dC, dI)) (ci := 11) (v := .int ((y23_0 1) + 1)) (ty := .int) (C := RX11) (T := TX11) (N := 61) hx hb hts hin11 tyX11 tyX11_ok nmX11 hown hK hP hD hS 0 rfl rfl 15 (by decide) hw_0 (fun _ h9 => h9) rfl (by decide +kernel) rfl rfl (Nat.le_of_ble_eq_true rfl) dX11_feed_111 (fun H locs hP hD hS => ?_)
              have hP : va_P (dC, dI) vwCl [(m0, .inr (11, oX11 ra (upd y23_0 1 ((y23_0 1) + 1)))), (ra 13, .inl (kI, 700, .inl f56))] H := hP
              have hD : va_D A [(m0, .inr (11, oX11 ra (upd y23_0 1 ((y23_0 1) + 1)))), (ra 13, .inl (kI, 700, .inl f56))] := hD
              refine lv_iinc (v := v23_loc6 + Int32.ofInt 1) (lv' := [(6, .int (v23_loc6 + Int32.ofInt 1)), (7, .int p2), (0, .ref m0), (1, .int p0), (2, .int p1), (3, .int p2), (4, .int p3), (5, .int p4)]) hx hb dX11_feed_114 hl (k := 7) rfl (rfl) (by decide) rfl (fun ls hl => ?_)
              have b60 : iv 9 12 (v23_loc6 + Int32.ofInt 1) := iv_add b45 (iv_k (by decide) (by decide) : iv 1 1 (Int32.ofInt 1)) (by decide) (by decide) (by decide) (by decide)
              have t61 : (v23_loc6 + Int32.ofInt 1).toInt = v23_loc6.toInt + 1 := iv_inc 1 b45 (by decide) (by decide) (by decide) (by decide)
              refine lv_goto (tgt := 23) hx hb dX11_feed_117 (by decide) ?_
              exact ih23 (upd y23_0 1 ((y23_0 1) + 1)) f56 (v23_loc6 + Int32.ofInt 1) _ _ _ (ms_up (c := 1) (d := 0) b45 hm23 (by decide) (iv_inc 1 b45 (by decide) (by decide) (by decide) (by decide)) (by decide) rfl) ((fI_u hI23_0 (k := 1) ((iv_w b58 (by decide) (by decide))))) (hf57) ((iv_w b60 (by decide) (by decide))) (h23_4) (h23_5) ((show ((y23_0 1) + 1).toInt = (x0 1).toInt + (v23_loc6 + Int32.ofInt 1).toInt from by have q5 := hfd_23; omega)) ((show (x0 1).toInt + 20 ≤ 700 from hro_23)) (hP.sub [0, 1] rfl) (hD.sub [0, 1] (by decide) rfl) hS (lv_sub hl [2, 3, 4, 5, 6, 7, 0] rfl)
          · have b62 : iv 4 7 v23_loc6 := iv_ltL (Int32.not_le.mp c6) b5 (iv_k (by decide) (by decide) : iv 8 8 8) (by decide) (by decide)
            refine lv_iload_n hx hb dX11_feed_47 rfl (lv_at hl 2 rfl) ?_
            refine lv_goto (tgt := 76) hx hb dX11_feed_48 (by decide) ?_
            refine lv_istore (lv' := [(7, .int p1), (0, .ref m0), (1, .int p0), (2, .int p1), (3, .int p2), (4, .int p3), (5, .int p4), (6, .int v23_loc6)]) hx hb dX11_feed_76 hl (by decide) rfl (fun ls hl => ?_)
            have b63 : iv 0 699 (y23_0 1) := feed_699 hfd_23 hro_23 (hI23_0 1 : iv 0 700 (y23_0 1)) (iv_w b62 (by decide) (by decide))
            refine lv_aload_n hx hb dX11_feed_78 rfl (lv_at hl 1 rfl) ?_
            refine va_get (D := (dC, dI)) (ci := 11) (v := .ref (ra 13)) (C := RX11) (T := TX11) (N := 61) hx hb hts hin11 hown hK hP 0 rfl rfl 14 (by decide) hw_1 (fun _ h9 => h9) rfl dX11_feed_79 ?_
            refine lv_aload_n hx hb dX11_feed_82 rfl (lv_at hl 1 rfl) ?_
            refine va_get (D := (dC, dI)) (ci := 11) (v := .int (y23_0 1)) (C := RX11) (T := TX11) (N := 61) hx hb hts hin11 hown hK hP 0 rfl rfl 15 (by decide) hw_0 (fun _ h9 => h9) rfl dX11_feed_83 ?_
            refine lv_iload hx hb dX11_feed_86 (lv_at hl 0 rfl) ?_
            refine lv_bipush (v := 24) hx hb dX11_feed_88 (by decide) ?_
            refine lv_bipush (v := 8) hx hb dX11_feed_90 (by decide) ?_
            refine lv_iload hx hb dX11_feed_92 (lv_at hl 7 rfl) ?_
            refine lv_iconst (v := 4) hx hb dX11_feed_94 (by decide) ?_
            refine lv_irem hx hb dX11_feed_95 (by decide) ?_
            refine iv_top (a := 0) (b := 3) (iv_rem b62 (iv_k (by decide) (by decide) : iv 4 4 4) (by decide) (by decide) (by decide) (by decide)) (fun z64 b65 => ?_)
            refine lv_imul hx hb dX11_feed_96 ?_
            refine iv_top (a := 0) (b := 24) (iv_mul (iv_k (by decide) (by decide) : iv 8 8 8) b65 (by decide) (by decide) (by decide) (by decide) (by decide)) (fun z66 b67 => ?_)
            refine lv_isub hx hb dX11_feed_97 ?_
            refine iv_top (a := 0) (b := 24) (iv_sub (iv_k (by decide) (by decide) : iv 24 24 24) b67 (by decide) (by decide) (by decide) (by decide)) (fun z68 b69 => ?_)
            refine lv_ishr hx hb dX11_feed_98 ?_
            refine lv_topi (fun z70 _ => ?_)
            refine lv_sipush (v := 255) hx hb dX11_feed_99 (by decide) ?_
            refine lv_iand hx hb dX11_feed_102 ?_
            refine iv_top (a := 0) (b := 255) (iv_and (m := 255) (by decide) (by decide) (by decide)) (fun z71 b72 => ?_)
            refine va_iast hx hb hK hP hD hS 1 1 rfl rfl (iv_in b63 (by decide) (by decide)) dX11_feed_103 (fun H locs hP hD hS => ?_)
            have hP : va_P (dC, dI) vwCl [(m0, .inr (11, oX11 ra y23_0)), (ra 13, .inl (kI, 700, .inl (upd g23_1 (y23_0 1).toNatClampNeg z71)))] H := hP
            have hD : va_D A [(m0, .inr (11, oX11 ra y23_0)), (ra 13, .inl (kI, 700, .inl (upd g23_1 (y23_0 1).toNatClampNeg z71)))] := hD
            have hf74 : fI (fun _ => 0) (fun _ => 255) (upd g23_1 (y23_0 1).toNatClampNeg z71) := fI_u hI23_1 (k := (y23_0 1).toNatClampNeg) (b72)
            generalize (upd g23_1 (y23_0 1).toNatClampNeg z71) = f73 at hP hD hf74
            refine lv_aload_n hx hb dX11_feed_104 rfl (lv_at hl 1 rfl) ?_
            refine lv_dup hx hb dX11_feed_105 rfl ?_
            refine va_get (D := (dC, dI)) (ci := 11) (v := .int (y23_0 1)) (C := RX11) (T := TX11) (N := 61) hx hb hts hin11 hown hK hP 0 rfl rfl 15 (by decide) hw_0 (fun _ h9 => h9) rfl dX11_feed_106 ?_
            refine lv_iconst (v := 1) hx hb dX11_feed_109 (by decide) ?_
            refine lv_iadd hx hb dX11_feed_110 ?_
            have b75 : iv 1 700 ((y23_0 1) + 1) := iv_add b63 (iv_k (by decide) (by decide) : iv 1 1 1) (by decide) (by decide) (by decide) (by decide)
            have t76 : ((y23_0 1) + 1).toInt = (y23_0 1).toInt + 1 := iv_addc b63 (by decide) (by decide) (by decide)
            refine va_put (D := (dC, dI)) (ci := 11) (v := .int ((y23_0 1) + 1)) (ty := .int) (C := RX11) (T := TX11) (N := 61) hx hb hts hin11 tyX11 tyX11_ok nmX11 hown hK hP hD hS 0 rfl rfl 15 (by decide) hw_0 (fun _ h9 => h9) rfl (by decide +kernel) rfl rfl (Nat.le_of_ble_eq_true rfl) dX11_feed_111 (fun H locs hP hD hS => ?_)
            have hP : va_P (dC, dI) vwCl [(m0, .inr (11, oX11 ra (upd y23_0 1 ((y23_0 1) + 1)))), (ra 13, .inl (kI, 700, .inl f73))] H := hP
            have hD : va_D A [(m0, .inr (11, oX11 ra (upd y23_0 1 ((y23_0 1) + 1)))), (ra 13, .inl (kI, 700, .inl f73))] := hD
            refine lv_iinc (v := v23_loc6 + Int32.ofInt 1) (lv' := [(6, .int (v23_loc6 + Int32.ofInt 1)), (7, .int p1), (0, .ref m0), (1, .int p0), (2, .int p1), (3, .int p2), (4, .int p3), (5, .int p4)]) hx hb dX11_feed_114 hl (k := 7) rfl (rfl) (by decide) rfl (fun ls hl => ?_)
            have b77 : iv 5 8 (v23_loc6 + Int32.ofInt 1) := iv_add b62 (iv_k (by decide) (by decide) : iv 1 1 (Int32.ofInt 1)) (by decide) (by decide) (by decide) (by decide)
            have t78 : (v23_loc6 + Int32.ofInt 1).toInt = v23_loc6.toInt + 1 := iv_inc 1 b62 (by decide) (by decide) (by decide) (by decide)
            refine lv_goto (tgt := 23) hx hb dX11_feed_117 (by decide) ?_
            exact ih23 (upd y23_0 1 ((y23_0 1) + 1)) f73 (v23_loc6 + Int32.ofInt 1) _ _ _ (ms_up (c := 1) (d := 0) b62 hm23 (by decide) (iv_inc 1 b62 (by decide) (by decide) (by decide) (by decide)) (by decide) rfl) ((fI_u hI23_0 (k := 1) ((iv_w b75 (by decide) (by decide))))) (hf74) ((iv_w b77 (by decide) (by decide))) (h23_4) (h23_5) ((show ((y23_0 1) + 1).toInt = (x0 1).toInt + (v23_loc6 + Int32.ofInt 1).toInt from by have q5 := hfd_23; omega)) ((show (x0 1).toInt + 20 ≤ 700 from hro_23)) (hP.sub [0, 1] rfl) (hD.sub [0, 1] (by decide) rfl) hS (lv_sub hl [2, 3, 4, 5, 6, 7, 0] rfl)
        · have b79 : iv 0 3 v23_loc6 := iv_ltL (Int32.not_le.mp c4) b3 (iv_k (by decide) (by decide) : iv 4 4 4) (by decide) (by decide)
          refine lv_iload_n hx hb dX11_feed_36 rfl (lv_at hl 1 rfl) ?_
          refine lv_goto (tgt := 76) hx hb dX11_feed_37 (by decide) ?_
          refine lv_istore (lv' := [(7, .int p0), (0, .ref m0), (1, .int p0), (2, .int p1), (3, .int p2), (4, .int p3), (5, .int p4), (6, .int v23_loc6)]) hx hb dX11_feed_76 hl (by decide) rfl (fun ls hl => ?_)
          have b80 : iv 0 699 (y23_0 1) := feed_699 hfd_23 hro_23 (hI23_0 1 : iv 0 700 (y23_0 1)) (iv_w b79 (by decide) (by decide))
          refine lv_aload_n hx hb dX11_feed_78 rfl (lv_at hl 1 rfl) ?_
          refine va_get (D := (dC, dI)) (ci := 11) (v := .ref (ra 13)) (C := RX11) (T := TX11) (N := 61) hx hb hts hin11 hown hK hP 0 rfl rfl 14 (by decide) hw_1 (fun _ h9 => h9) rfl dX11_feed_79 ?_
          refine lv_aload_n hx hb dX11_feed_82 rfl (lv_at hl 1 rfl) ?_
          refine va_get (D := (dC, dI)) (ci := 11) (v := .int (y23_0 1)) (C := RX11) (T := TX11) (N := 61) hx hb hts hin11 hown hK hP 0 rfl rfl 15 (by decide) hw_0 (fun _ h9 => h9) rfl dX11_feed_83 ?_
          refine lv_iload hx hb dX11_feed_86 (lv_at hl 0 rfl) ?_
          refine lv_bipush (v := 24) hx hb dX11_feed_88 (by decide) ?_
          refine lv_bipush (v := 8) hx hb dX11_feed_90 (by decide) ?_
          refine lv_iload hx hb dX11_feed_92 (lv_at hl 7 rfl) ?_
          refine lv_iconst (v := 4) hx hb dX11_feed_94 (by decide) ?_
          refine lv_irem hx hb dX11_feed_95 (by decide) ?_
          refine iv_top (a := 0) (b := 3) (iv_rem b79 (iv_k (by decide) (by decide) : iv 4 4 4) (by decide) (by decide) (by decide) (by decide)) (fun z81 b82 => ?_)
          refine lv_imul hx hb dX11_feed_96 ?_
          refine iv_top (a := 0) (b := 24) (iv_mul (iv_k (by decide) (by decide) : iv 8 8 8) b82 (by decide) (by decide) (by decide) (by decide) (by decide)) (fun z83 b84 => ?_)
          refine lv_isub hx hb dX11_feed_97 ?_
          refine iv_top (a := 0) (b := 24) (iv_sub (iv_k (by decide) (by decide) : iv 24 24 24) b84 (by decide) (by decide) (by decide) (by decide)) (fun z85 b86 => ?_)
          refine lv_ishr hx hb dX11_feed_98 ?_
          refine lv_topi (fun z87 _ => ?_)
          refine lv_sipush (v := 255) hx hb dX11_feed_99 (by decide) ?_
          refine lv_iand hx hb dX11_feed_102 ?_
          refine iv_top (a := 0) (b := 255) (iv_and (m := 255) (by decide) (by decide) (by decide)) (fun z88 b89 => ?_)
          refine va_iast hx hb hK hP hD hS 1 1 rfl rfl (iv_in b80 (by decide) (by decide)) dX11_feed_103 (fun H locs hP hD hS => ?_)
          have hP : va_P (dC, dI) vwCl [(m0, .inr (11, oX11 ra y23_0)), (ra 13, .inl (kI, 700, .inl (upd g23_1 (y23_0 1).toNatClampNeg z88)))] H := hP
          have hD : va_D A [(m0, .inr (11, oX11 ra y23_0)), (ra 13, .inl (kI, 700, .inl (upd g23_1 (y23_0 1).toNatClampNeg z88)))] := hD
          have hf91 : fI (fun _ => 0) (fun _ => 255) (upd g23_1 (y23_0 1).toNatClampNeg z88) := fI_u hI23_1 (k := (y23_0 1).toNatClampNeg) (b89)
          generalize (upd g23_1 (y23_0 1).toNatClampNeg z88) = f90 at hP hD hf91
          refine lv_aload_n hx hb dX11_feed_104 rfl (lv_at hl 1 rfl) ?_
          refine lv_dup hx hb dX11_feed_105 rfl ?_
          refine va_get (D := (dC, dI)) (ci := 11) (v := .int (y23_0 1)) (C := RX11) (T := TX11) (N := 61) hx hb hts hin11 hown hK hP 0 rfl rfl 15 (by decide) hw_0 (fun _ h9 => h9) rfl dX11_feed_106 ?_
          refine lv_iconst (v := 1) hx hb dX11_feed_109 (by decide) ?_
          refine lv_iadd hx hb dX11_feed_110 ?_
          have b92 : iv 1 700 ((y23_0 1) + 1) := iv_add b80 (iv_k (by decide) (by decide) : iv 1 1 1) (by decide) (by decide) (by decide) (by decide)
          have t93 : ((y23_0 1) + 1).toInt = (y23_0 1).toInt + 1 := iv_addc b80 (by decide) (by decide) (by decide)
          refine va_put (D := (dC, dI)) (ci := 11) (v := .int ((y23_0 1) + 1)) (ty := .int) (C := RX11) (T := TX11) (N := 61) hx hb hts hin11 tyX11 tyX11_ok nmX11 hown hK hP hD hS 0 rfl rfl 15 (by decide) hw_0 (fun _ h9 => h9) rfl (by decide +kernel) rfl rfl (Nat.le_of_ble_eq_true rfl) dX11_feed_111 (fun H locs hP hD hS => ?_)
          have hP : va_P (dC, dI) vwCl [(m0, .inr (11, oX11 ra (upd y23_0 1 ((y23_0 1) + 1)))), (ra 13, .inl (kI, 700, .inl f90))] H := hP
          have hD : va_D A [(m0, .inr (11, oX11 ra (upd y23_0 1 ((y23_0 1) + 1)))), (ra 13, .inl (kI, 700, .inl f90))] := hD
          refine lv_iinc (v := v23_loc6 + Int32.ofInt 1) (lv' := [(6, .int (v23_loc6 + Int32.ofInt 1)), (7, .int p0), (0, .ref m0), (1, .int p0), (2, .int p1), (3, .int p2), (4, .int p3), (5, .int p4)]) hx hb dX11_feed_114 hl (k := 7) rfl (rfl) (by decide) rfl (fun ls hl => ?_)
          have b94 : iv 1 4 (v23_loc6 + Int32.ofInt 1) := iv_add b79 (iv_k (by decide) (by decide) : iv 1 1 (Int32.ofInt 1)) (by decide) (by decide) (by decide) (by decide)
          have t95 : (v23_loc6 + Int32.ofInt 1).toInt = v23_loc6.toInt + 1 := iv_inc 1 b79 (by decide) (by decide) (by decide) (by decide)
          refine lv_goto (tgt := 23) hx hb dX11_feed_117 (by decide) ?_
          exact ih23 (upd y23_0 1 ((y23_0 1) + 1)) f90 (v23_loc6 + Int32.ofInt 1) _ _ _ (ms_up (c := 1) (d := 0) b79 hm23 (by decide) (iv_inc 1 b79 (by decide) (by decide) (by decide) (by decide)) (by decide) rfl) ((fI_u hI23_0 (k := 1) ((iv_w b92 (by decide) (by decide))))) (hf91) ((iv_w b94 (by decide) (by decide))) (h23_4) (h23_5) ((show ((y23_0 1) + 1).toInt = (x0 1).toInt + (v23_loc6 + Int32.ofInt 1).toInt from by have q5 := hfd_23; omega)) ((show (x0 1).toInt + 20 ≤ 700 from hro_23)) (hP.sub [0, 1] rfl) (hD.sub [0, 1] (by decide) rfl) hS (lv_sub hl [2, 3, 4, 5, 6, 7, 0] rfl)
  refine lv_aload_n hx hb dX11_feed_0 rfl (lv_at hl 0 rfl) ?_
  refine lv_iconst (v := 0) hx hb dX11_feed_1 (by decide) ?_
  refine va_put (D := (dC, dI)) (ci := 11) (v := .int 0) (ty := .int) (C := RX11) (T := TX11) (N := 61) hx hb hts hin11 tyX11 tyX11_ok nmX11 hown hK hP hD hS 0 rfl rfl 2 (by decide) hw_2 (fun _ h9 => h9) rfl (by decide +kernel) rfl rfl (Nat.le_of_ble_eq_true rfl) dX11_feed_2 (fun H locs hP hD hS => ?_)
  have hP : va_P (dC, dI) vwCl [(m0, .inr (11, oX11 ra (upd x0 0 0))), (ra 13, .inl (kI, 700, .inl q_tape))] H := hP
  have hD : va_D A [(m0, .inr (11, oX11 ra (upd x0 0 0))), (ra 13, .inl (kI, 700, .inl q_tape))] := hD
  refine lv_aload_n hx hb dX11_feed_5 rfl (lv_at hl 0 rfl) ?_
  refine va_get (D := (dC, dI)) (ci := 11) (v := .int (x0 1)) (C := RX11) (T := TX11) (N := 61) hx hb hts hin11 hown hK hP 0 rfl rfl 15 (by decide) hw_0 (fun _ h9 => h9) rfl dX11_feed_6 ?_
  refine lv_bipush (v := 20) hx hb dX11_feed_9 (by decide) ?_
  refine lv_iadd hx hb dX11_feed_11 ?_
  have b96 : iv 20 720 ((x0 1) + 20) := iv_add (hX 1 : iv 0 700 (x0 1)) (iv_k (by decide) (by decide) : iv 20 20 20) (by decide) (by decide) (by decide) (by decide)
  have t97 : ((x0 1) + 20).toInt = (x0 1).toInt + 20 := iv_addc (hX 1 : iv 0 700 (x0 1)) (by decide) (by decide) (by decide)
  refine lv_sipush (v := 700) hx hb dX11_feed_12 (by decide) ?_
  refine lv_icmp_le (tgt := 20) hx hb dX11_feed_15 (by decide) (fun c98 => ?_) (fun c98 => ?_)
  · have b99 : iv 20 700 ((x0 1) + 20) := iv_leL c98 b96 (iv_k (by decide) (by decide) : iv 700 700 700) (by decide) (by decide)
    refine lv_iconst (v := 0) hx hb dX11_feed_20 (by decide) ?_
    refine lv_istore (lv' := [(6, .int 0), (0, .ref m0), (1, .int p0), (2, .int p1), (3, .int p2), (4, .int p3), (5, .int p4)]) hx hb dX11_feed_21 hl (by decide) rfl (fun ls hl => ?_)
    exact hJ23 _ (upd x0 0 0) q_tape 0 _ _ _ (Nat.lt_succ_self _) ((fI_u hX (k := 0) ((iv_w (iv_k (by decide) (by decide) : iv 0 0 0) (by decide) (by decide))))) (hq_tape) ((iv_w (iv_k (by decide) (by decide) : iv 0 0 0) (by decide) (by decide))) ((iv_k (by decide) (by decide) : iv 0 0 0)) (b99) ((show (x0 1).toInt = (x0 1).toInt + ((0 : Int32)).toInt from by rw [show ((0 : Int32)).toInt = 0 from by decide]; omega)) ((show (x0 1).toInt + 20 ≤ 700 from room_20 (hX 1 : iv 0 700 (x0 1)) c98)) (hP.sub [0, 1] rfl) (hD.sub [0, 1] (by decide) rfl) hS (lv_sub hl [1, 2, 3, 4, 5, 6, 0] rfl)
  · have b100 : iv 701 720 ((x0 1) + 20) := iv_ltR (Int32.not_le.mp c98) (iv_k (by decide) (by decide) : iv 700 700 700) b96 (by decide) (by decide)
    refine lv_iconst (v := (-1)) hx hb dX11_feed_18 (by decide) ?_
    have hP9 := hP.sub (ws' := [(m0, .inr (11, oX11 ra (upd x0 0 0))), (ra 13, .inl (kI, 700, .inl q_tape))]) [0, 1] rfl
    have hD9 := hD.sub (ws' := [(m0, .inr (11, oX11 ra (upd x0 0 0))), (ra 13, .inl (kI, 700, .inl q_tape))]) [0, 1] (by decide) rfl
    exact W.iret (v := (-1)) hx hb hr (fun t ht hW => ⟨⟨(-1), (), rfl, (iv_w (iv_k (by decide) (by decide) : iv (-1) (-1) (-1)) (by decide) (by decide)), upd x0 0 0, q_tape, (fI_u hX (k := 0) ((iv_w (iv_k (by decide) (by decide) : iv 0 0 0) (by decide) (by decide)))), hq_tape, by rw [ht]; exact hP9, hD9⟩, hS.F ht⟩) hS.2.2 dX11_feed_19
def rm_s11_byteAt : Room := { frames := 0, cells := 0, slots := 0, locals := 0 }
set_option maxHeartbeats 4000000 in
set_option maxRecDepth 100000 in
theorem s11_byteAt (l : Launch) (dC : Nat → ClassId) (dI : Nat → Nat → Nat) (kB kI kJ kZ kC kS : ClassId) (sz : Nat) (m0 : Nat) (ra : Nat → Nat) (x0 : Nat → Int32) (q_tape : Nat → Int32) (p0 : Int32) (hX : fI lX11 hX11 x0) (hq_tape : fI (fun _ => 0) (fun _ => 255) q_tape) (hp0 : iv 0 700 p0) : Met l yX11_byteAt wsX11_byteAt rm_s11_byteAt (va_Pc [.ref m0, .int p0] (fun U => U.heap.size = sz ∧ va_P (dC, dI) vwCl [(m0, .inr (11, oX11 ra x0)), (ra 13, .inl (kI, 700, .inl q_tape))] U.heap ∧ kE dC dI kB kI kJ kZ kC kS U ∧ va_D (fun _ => True) [(m0, .inr (11, oX11 ra x0)), (ra 13, .inl (kI, 700, .inl q_tape))])) (va_Qi (fun (r : Int32) (_ : Unit) => r = byA q_tape (x0 3) p0 ∧ iv (-1) 255 r) (fun _ t => (byA q_tape (x0 3) p0 = -1 ∨ iv 0 699 p0) ∧ va_P (dC, dI) vwCl [(m0, .inr (11, oX11 ra x0)), (ra 13, .inl (kI, 700, .inl q_tape))] t.heap ∧ va_D (va_A [(m0, .inr (11, oX11 ra x0)), (ra 13, .inl (kI, 700, .inl q_tape))] sz) [(m0, .inr (11, oX11 ra x0)), (ra 13, .inl (kI, 700, .inl q_tape))]) (va_A [(m0, .inr (11, oX11 ra x0)), (ra 13, .inl (kI, 700, .inl q_tape))] sz)) 0 0 (va_A [(m0, .inr (11, oX11 ra x0)), (ra 13, .inl (kI, 700, .inl q_tape))] sz) := by
  refine Met.ofW (cc := cX11_byteAt) (maxL := 2) (ret := (some .int)) (by decide) rfl ?_
  intro p e s m args0 below meth c s₁ B hml hv
  obtain ⟨hargs, hsz, hP, hE, hD0⟩ := hv
  have hx := B.exec
  have hb := B.bytes
  have hr := B.returns
  have hts := atoms_spec (ws := wsX11_byteAt) B.pre
  have hown : s.vm.findClass RX11 = some m.cls := findClass_of_methodNamed B.named
  have hlocks := B.notSynchronized
  have hK := hE.1
  have hin11 : ∀ w ∈ wsX110, w ∈ wsX11_byteAt := fun _ h9 => List.mem_cons_of_mem _ (List.mem_append_right _ h9)
  have hw_0 := hts (.fieldLink RX11 148 "PathProberModel" "textSize" "I") (List.mem_of_getElem? (i := 1) (by decide +kernel))
  have hw_1 := hts (.fieldLink RX11 66 "PathProberModel" "tape" "[I") (List.mem_of_getElem? (i := 2) (by decide +kernel))
  subst hsz
  have hD := hD0.self (sz := s.heap.size)
  generalize hAe : va_A [(m0, .inr (11, oX11 ra x0)), (ra 13, .inl (kI, 700, .inl q_tape))] s.heap.size = A at hD ⊢
  have hA : ∀ q : Nat, s.heap.size ≤ q → A q := fun q h => by rw [← hAe]; exact Or.inr h
  have hS : va_S A s.heap s.heap [] := va_S.rf
  have hP : va_P (dC, dI) vwCl [(m0, .inr (11, oX11 ra x0)), (ra 13, .inl (kI, 700, .inl q_tape))] s.heap := hP
  have hl := lv_entry ([.ref m0, .int p0]) (n := 2) (Nat.le_of_ble_eq_true rfl)
  have hla : entryFrame m args0 2 = entryFrame m ([.ref m0, .int p0] : List Value).toArray 2 := by rw [hargs]
  rw [hla, lg_entry_eq]
  generalize (lg_sl ([.ref m0, .int p0]) ++ List.replicate (2 - (lg_sl ([.ref m0, .int p0])).length) Slot.unset).toArray = ls at hl ⊢
  have hl : lv_has ls 2 [(0, .ref m0), (1, .int p0)] := hl
  refine lv_iload_n hx hb dX11_byteAt_0 rfl (lv_at hl 1 rfl) ?_
  refine lv_aload_n hx hb dX11_byteAt_1 rfl (lv_at hl 0 rfl) ?_
  refine va_get (D := (dC, dI)) (ci := 11) (v := .int (x0 3)) (C := RX11) (T := TX11) (N := 61) hx hb hts hin11 hown hK hP 0 rfl rfl 17 (by decide) hw_0 (fun _ h9 => h9) rfl dX11_byteAt_2 ?_
  refine lv_icmp_ge (tgt := 17) hx hb dX11_byteAt_5 (by decide) (fun c1 => ?_) (fun c1 => ?_)
  · refine lv_iconst (v := (-1)) hx hb dX11_byteAt_17 (by decide) ?_
    have hP9 := hP.sub (ws' := [(m0, .inr (11, oX11 ra x0)), (ra 13, .inl (kI, 700, .inl q_tape))]) [0, 1] rfl
    have hD9 := hD.sub (ws' := [(m0, .inr (11, oX11 ra x0)), (ra 13, .inl (kI, 700, .inl q_tape))]) [0, 1] (by decide) rfl
    exact W.iret (v := (-1)) hx hb hr (fun t ht hW => ⟨⟨(-1), (), rfl, ⟨byA_f c1, (iv_w (iv_k (by decide) (by decide) : iv (-1) (-1) (-1)) (by decide) (by decide))⟩, (show byA q_tape (x0 3) p0 = -1 ∨ iv 0 699 p0 from byA_699 (hX 3 : iv 0 700 (x0 3)) hp0), by rw [ht]; exact hP9, hD9⟩, hS.F ht⟩) hS.2.2 dX11_byteAt_18
  · have b2 : iv 0 699 p0 := iv_ltL (Int32.not_le.mp c1) hp0 (hX 3 : iv 0 700 (x0 3)) (by decide) (by decide)
    have b3 : iv 1 700 (x0 3) := iv_ltR (Int32.not_le.mp c1) hp0 (hX 3 : iv 0 700 (x0 3)) (by decide) (by decide)
    refine lv_aload_n hx hb dX11_byteAt_8 rfl (lv_at hl 0 rfl) ?_
    refine va_get (D := (dC, dI)) (ci := 11) (v := .ref (ra 13)) (C := RX11) (T := TX11) (N := 61) hx hb hts hin11 hown hK hP 0 rfl rfl 14 (by decide) hw_1 (fun _ h9 => h9) rfl dX11_byteAt_9 ?_
    refine lv_iload_n hx hb dX11_byteAt_12 rfl (lv_at hl 1 rfl) ?_
    refine va_iald hx hb hK hP 1 1 rfl rfl (iv_in b2 (by decide) (by decide)) dX11_byteAt_13 ?_
    have b4 : iv 0 255 (q_tape p0.toNatClampNeg) := hq_tape _
    refine lv_goto (tgt := 18) hx hb dX11_byteAt_14 (by decide) ?_
    have hP9 := hP.sub (ws' := [(m0, .inr (11, oX11 ra x0)), (ra 13, .inl (kI, 700, .inl q_tape))]) [0, 1] rfl
    have hD9 := hD.sub (ws' := [(m0, .inr (11, oX11 ra x0)), (ra 13, .inl (kI, 700, .inl q_tape))]) [0, 1] (by decide) rfl
    exact W.iret (v := q_tape p0.toNatClampNeg) hx hb hr (fun t ht hW => ⟨⟨q_tape p0.toNatClampNeg, (), rfl, ⟨byA_t (Int32.not_le.mp c1), (iv_w b4 (by decide) (by decide))⟩, (show byA q_tape (x0 3) p0 = -1 ∨ iv 0 699 p0 from byA_699 (iv_w b3 (by decide) (by decide)) hp0), by rw [ht]; exact hP9, hD9⟩, hS.F ht⟩) hS.2.2 dX11_byteAt_18
def rm_s11_stepOn : Room := { frames := 1, cells := 0, slots := 0, locals := 21 }
set_option maxHeartbeats 4000000 in
set_option maxRecDepth 100000 in
theorem s11_stepOn (l : Launch) (dC : Nat → ClassId) (dI : Nat → Nat → Nat) (kB kI kJ kZ kC kS : ClassId) (sz : Nat) (m0 : Nat) (ra : Nat → Nat) (x0 : Nat → Int32) (q_tape : Nat → Int32) (hX : fI lX11 hX11 x0) (hq_tape : fI (fun _ => 0) (fun _ => 255) q_tape) : Met l yX11_stepOn wsX11_stepOn rm_s11_stepOn (va_Pc [.ref m0] (fun U => U.heap.size = sz ∧ va_P (dC, dI) vwCl [(m0, .inr (11, oX11 ra x0)), (ra 13, .inl (kI, 700, .inl q_tape))] U.heap ∧ kE dC dI kB kI kJ kZ kC kS U ∧ va_D (fun _ => True) [(m0, .inr (11, oX11 ra x0)), (ra 13, .inl (kI, 700, .inl q_tape))])) (va_Qv (fun (_ : Unit) => True) (fun _ t => ∃ (x0' : Nat → Int32), fI lX11 hX11 x0' ∧ ((x0 2).toInt ≤ (x0' 2).toInt) ∧ (x0' 3 = x0 3) ∧ (x0' 4 = 0 ∨ (x0 2).toInt + 1 ≤ (x0' 2).toInt) ∧ (x0' 1 = x0 1) ∧ va_P (dC, dI) vwCl [(m0, .inr (11, oX11 ra x0')), (ra 13, .inl (kI, 700, .inl q_tape))] t.heap ∧ va_D (va_A [(m0, .inr (11, oX11 ra x0)), (ra 13, .inl (kI, 700, .inl q_tape))] sz) [(m0, .inr (11, oX11 ra x0')), (ra 13, .inl (kI, 700, .inl q_tape))]) (va_A [(m0, .inr (11, oX11 ra x0)), (ra 13, .inl (kI, 700, .inl q_tape))] sz)) 0 0 (va_A [(m0, .inr (11, oX11 ra x0)), (ra 13, .inl (kI, 700, .inl q_tape))] sz) := by
  refine Met.ofW (cc := cX11_stepOn) (maxL := 2) (ret := none) (by decide) rfl ?_
  intro p e s m args0 below meth c s₁ B hml hv
  obtain ⟨hargs, hsz, hP, hE, hD0⟩ := hv
  have hx := B.exec
  have hb := B.bytes
  have hr := B.returns
  have hts := atoms_spec (ws := wsX11_stepOn) B.pre
  have hown : s.vm.findClass RX11 = some m.cls := findClass_of_methodNamed B.named
  have hlocks := B.notSynchronized
  have hK := hE.1
  have hin11 : ∀ w ∈ wsX110, w ∈ wsX11_stepOn := fun _ h9 => List.mem_cons_of_mem _ (List.mem_append_right _ h9)
  have hw_0 := hts (.fieldLink RX11 151 "PathProberModel" "at" "I") (List.mem_of_getElem? (i := 1) (by decide +kernel))
  have hw_1 := hts (.fieldLink RX11 161 "PathProberModel" "token" "I") (List.mem_of_getElem? (i := 3) (by decide +kernel))
  have hw_2 := hts (.fieldLink RX11 181 "PathProberModel" "stops" "I") (List.mem_of_getElem? (i := 10) (by decide +kernel))
  have hw_3 := hts (.constant RX11 174 (100000)) (List.mem_of_getElem? (i := 5) (by decide +kernel))
  have hw_4 := hts (.fieldLink RX11 171 "PathProberModel" "number" "I") (List.mem_of_getElem? (i := 4) (by decide +kernel))
  have hw_5 := hts (.methodLink RX11 175 Lib.Math.min.name) (List.mem_of_getElem? (i := 6) (by decide +kernel))
  have hw_6 := hts (.static Lib.Math.min.name) (List.mem_of_getElem? (i := 7) (by decide +kernel))
  have hw_7 := hts (.initialized "java/lang/Math") (List.mem_of_getElem? (i := 8) (by decide +kernel))
  have hw_8 := hts (.code Lib.Math.min.name Lib.Math.min.code 2 (some .int)) (List.mem_of_getElem? (i := 9) (by decide +kernel))
  have hw_9 := hts (.fieldLink RX11 158 "PathProberModel" "begins" "I") (List.mem_of_getElem? (i := 2) (by decide +kernel))
  subst hsz
  have hD := hD0.self (sz := s.heap.size)
  generalize hAe : va_A [(m0, .inr (11, oX11 ra x0)), (ra 13, .inl (kI, 700, .inl q_tape))] s.heap.size = A at hD ⊢
  have hA : ∀ q : Nat, s.heap.size ≤ q → A q := fun q h => by rw [← hAe]; exact Or.inr h
  have hS : va_S A s.heap s.heap [] := va_S.rf
  have hP : va_P (dC, dI) vwCl [(m0, .inr (11, oX11 ra x0)), (ra 13, .inl (kI, 700, .inl q_tape))] s.heap := hP
  have hl := lv_entry ([.ref m0]) (n := 2) (Nat.le_of_ble_eq_true rfl)
  have hla : entryFrame m args0 2 = entryFrame m ([.ref m0] : List Value).toArray 2 := by rw [hargs]
  rw [hla, lg_entry_eq]
  generalize (lg_sl ([.ref m0]) ++ List.replicate (2 - (lg_sl ([.ref m0])).length) Slot.unset).toArray = ls at hl ⊢
  have hl : lv_has ls 2 [(0, .ref m0)] := hl
  have hJ123 : ∀ (n : Nat) (y123_0 : Nat → Int32) (v123_loc1 : Int32) (H : Heap) (locs : List Loc) (ls : Array Slot), (700 - (y123_0 2).toInt).toNat < n → fI lX11 hX11 y123_0 → iv 48 57 v123_loc1 → iv 0 699 (y123_0 6) → ((x0 2).toInt + 1 ≤ (y123_0 2).toInt ∨ ¬ isDg (byA q_tape (x0 3) (y123_0 2)) = 0) → ((x0 2).toInt ≤ (y123_0 2).toInt) → (y123_0 3 = x0 3) → (y123_0 1 = x0 1) → va_P (dC, dI) vwCl [(m0, .inr (11, oX11 ra y123_0)), (ra 13, .inl (kI, 700, .inl q_tape))] H → va_D A [(m0, .inr (11, oX11 ra y123_0)), (ra 13, .inl (kI, 700, .inl q_tape))] → va_S A s.heap H locs → lv_has ls 2 [(0, .ref m0), (1, .int v123_loc1)] → W p l e (headSpec wsX11_stepOn rm_s11_stepOn).room s m args0 below meth c H locs (0) (0) (MQ below (va_Qv (fun (_ : Unit) => True) (fun _ t => ∃ (x0' : Nat → Int32), fI lX11 hX11 x0' ∧ ((x0 2).toInt ≤ (x0' 2).toInt) ∧ (x0' 3 = x0 3) ∧ (x0' 4 = 0 ∨ (x0 2).toInt + 1 ≤ (x0' 2).toInt) ∧ (x0' 1 = x0 1) ∧ va_P (dC, dI) vwCl [(m0, .inr (11, oX11 ra x0')), (ra 13, .inl (kI, 700, .inl q_tape))] t.heap ∧ va_D A [(m0, .inr (11, oX11 ra x0')), (ra 13, .inl (kI, 700, .inl q_tape))]) A) args0 s 0 0 A) (F0 m 123 ls []) := by
    intro n
    induction n with
    | zero => intro y123_0 v123_loc1 H locs ls hm123; exact absurd hm123 (Nat.not_lt_zero _)
    | succ n ih123 =>
      intro y123_0 v123_loc1 H locs ls hm123 hI123_0 h123_2 h123_3 hsx_123 hat_123 hts_123 htp_123 hP hD hS hl
      refine lv_aload_n hx hb dX11_stepOn_123 rfl (lv_at hl 0 rfl) ?_
      refine lv_aload_n hx hb dX11_stepOn_124 rfl (lv_at hl 0 rfl) ?_
      refine va_get (D := (dC, dI)) (ci := 11) (v := .int (y123_0 2)) (C := RX11) (T := TX11) (N := 61) hx hb hts hin11 hown hK hP 0 rfl rfl 16 (by decide) hw_0 (fun _ h9 => h9) rfl dX11_stepOn_125 ?_
      have hPc := hP.sub (ws' := [(m0, .inr (11, oX11 ra y123_0)), (ra 13, .inl (kI, 700, .inl q_tape))]) [0, 1] rfl
      have hDc := hD.sub (ws' := [(m0, .inr (11, oX11 ra y123_0)), (ra 13, .inl (kI, 700, .inl q_tape))]) [0, 1] (by decide) rfl
      have hFc := va_free (wc := [(m0, .inr (11, oX11 ra y123_0)), (ra 13, .inl (kI, 700, .inl q_tape))]) hD hS hA [0, 1] rfl
      refine va_calli (va_runV (As := [.int (y123_0 2)]) (rest := []) ⟨hx, hb, hml, hown, hts⟩ (s11_byteAt l dC dI kB kI kJ kZ kC kS H.size m0 ra y123_0 q_tape (y123_0 2) (hI123_0) (hq_tape) ((hI123_0 2 : iv 0 700 (y123_0 2)))) (cwV 1 hts gX11_stepOn_X11_byteAt rfl rfl rfl (by decide +kernel) ⟨Nat.le_of_ble_eq_true rfl, Nat.le_of_ble_eq_true rfl⟩) ⟨fun a U g mk q => by obtain ⟨q0, q1, qP, qE, qD⟩ := q; exact ⟨q0, q1, qP, kE_call qE, qD⟩, va_recv hK hP (ci := 11) (q0 := 0) rfl rfl, fun U hU hW => ⟨rfl, by rw [hU], by rw [hU]; exact hPc, kE_warm hW hE, hDc.weaken (fun _ _ _ _ => trivial)⟩⟩ rfl rfl hl.1 rfl (lv_room (Nat.le_of_ble_eq_true rfl)) dX11_stepOn_128 ⟨Nat.le_of_ble_eq_true rfl, Nat.le_of_ble_eq_true rfl⟩) hS (fun q _ h => hFc q h) hFc (fun r1 u t H1 locs ht hvm w2 hB hz1 hk1 hS => ?_)
      obtain ⟨hq3, hP1, hD1⟩ := hB
      rw [ht] at hP1
      try dsimp only at w2
      obtain ⟨hP, hD⟩ := va_join (wr := []) (w1 := [(m0, .inr (11, oX11 ra y123_0)), (ra 13, .inl (kI, 700, .inl q_tape))]) hP hD [0, 1] [] rfl rfl (by decide) (by decide) hk1 hFc hP1 hD1
      generalize H1 = H at hP hS ⊢
      have hP : va_P (dC, dI) vwCl [(m0, .inr (11, oX11 ra y123_0)), (ra 13, .inl (kI, 700, .inl q_tape))] H := hP
      have hD : va_D A [(m0, .inr (11, oX11 ra y123_0)), (ra 13, .inl (kI, 700, .inl q_tape))] := hD
      refine W.widen (k := 0) (n := 0) (Nat.le_of_ble_eq_true rfl) (Nat.le_of_ble_eq_true rfl) ?_
      obtain ⟨w2, b4⟩ := w2
      subst w2
      have hPc := hP.sub (ws' := []) [] rfl
      have hDc := hD.sub (ws' := []) [] (by decide) rfl
      have hFc := va_free (wc := []) hD hS hA [] rfl
      refine va_calli (va_runS (As := [.int (byA q_tape (y123_0 3) (y123_0 2))]) (rest := []) ⟨hx, hb, hml, hown, hts⟩ (s11_isDigit l dC dI kB kI kJ kZ kC kS H.size (byA q_tape (y123_0 3) (y123_0 2))) (va_cwS 1 hts gX11_stepOn_X11_isDigit rfl rfl rfl (by decide +kernel) ⟨Nat.le_of_ble_eq_true rfl, Nat.le_of_ble_eq_true rfl⟩) ⟨fun a U g mk q => by obtain ⟨q0, q1, qP, qE, qD⟩ := q; exact ⟨q0, q1, qP, kE_call qE, qD⟩, fun U hU hW => ⟨rfl, by rw [hU], by rw [hU]; exact hPc, kE_warm hW hE, hDc.weaken (fun _ _ _ _ => trivial)⟩⟩ rfl rfl hl.1 rfl (lv_room (Nat.le_of_ble_eq_true rfl)) dX11_stepOn_131 ⟨Nat.le_of_ble_eq_true rfl, Nat.le_of_ble_eq_true rfl⟩) hS (fun q _ h => hFc q h) hFc (fun r5 u t H1 locs ht hvm w6 hB hz1 hk1 hS => ?_)
      obtain ⟨hP1, hD1⟩ := hB
      rw [ht] at hP1
      try dsimp only at w6
      obtain ⟨hP, hD⟩ := va_join (wr := [(m0, .inr (11, oX11 ra y123_0)), (ra 13, .inl (kI, 700, .inl q_tape))]) (w1 := []) hP hD [] [0, 1] rfl rfl (by decide) (by decide) hk1 hFc hP1 hD1
      generalize H1 = H at hP hS ⊢
      have hP : va_P (dC, dI) vwCl [(m0, .inr (11, oX11 ra y123_0)), (ra 13, .inl (kI, 700, .inl q_tape))] H := hP
      have hD : va_D A [(m0, .inr (11, oX11 ra y123_0)), (ra 13, .inl (kI, 700, .inl q_tape))] := hD
      refine W.widen (k := 0) (n := 0) (Nat.le_of_ble_eq_true rfl) (Nat.le_of_ble_eq_true rfl) ?_
      obtain ⟨w6, b7⟩ := w6
      subst w6
      refine lv_if_eq (tgt := 178) hx hb dX11_stepOn_134 (by decide) (fun c8 => ?_) (fun c8 => ?_)
      · have b9 : iv 0 0 (isDg (byA q_tape (y123_0 3) (y123_0 2))) := iv_eqL c8 (iv_k (by decide) (by decide) : iv 0 0 0)
        have hst10 : (x0 2).toInt + 1 ≤ (y123_0 2).toInt := hsx_123.resolve_right (fun w => w (by have q := c8; rw [hts_123] at q; exact q))
        refine lv_aload_n hx hb dX11_stepOn_178 rfl (lv_at hl 0 rfl) ?_
        refine lv_iconst (v := 2) hx hb dX11_stepOn_179 (by decide) ?_
        refine va_put (D := (dC, dI)) (ci := 11) (v := .int 2) (ty := .int) (C := RX11) (T := TX11) (N := 61) hx hb hts hin11 tyX11 tyX11_ok nmX11 hown hK hP hD hS 0 rfl rfl 18 (by decide) hw_1 (fun _ h9 => h9) rfl (by decide +kernel) rfl rfl (Nat.le_of_ble_eq_true rfl) dX11_stepOn_180 (fun H locs hP hD hS => ?_)
        have hP : va_P (dC, dI) vwCl [(m0, .inr (11, oX11 ra (upd y123_0 4 2))), (ra 13, .inl (kI, 700, .inl q_tape))] H := hP
        have hD : va_D A [(m0, .inr (11, oX11 ra (upd y123_0 4 2))), (ra 13, .inl (kI, 700, .inl q_tape))] := hD
        refine lv_goto (tgt := 211) hx hb dX11_stepOn_183 (by decide) ?_
        refine lv_aload_n hx hb dX11_stepOn_211 rfl (lv_at hl 0 rfl) ?_
        refine lv_aload_n hx hb dX11_stepOn_212 rfl (lv_at hl 0 rfl) ?_
        refine va_get (D := (dC, dI)) (ci := 11) (v := .int (y123_0 2)) (C := RX11) (T := TX11) (N := 61) hx hb hts hin11 hown hK hP 0 rfl rfl 16 (by decide) hw_0 (fun _ h9 => h9) rfl dX11_stepOn_213 ?_
        refine va_put (D := (dC, dI)) (ci := 11) (v := .int (y123_0 2)) (ty := .int) (C := RX11) (T := TX11) (N := 61) hx hb hts hin11 tyX11 tyX11_ok nmX11 hown hK hP hD hS 0 rfl rfl 21 (by decide) hw_2 (fun _ h9 => h9) rfl (by decide +kernel) rfl rfl (Nat.le_of_ble_eq_true rfl) dX11_stepOn_216 (fun H locs hP hD hS => ?_)
        have hP : va_P (dC, dI) vwCl [(m0, .inr (11, oX11 ra (upd (upd y123_0 4 2) 7 (y123_0 2)))), (ra 13, .inl (kI, 700, .inl q_tape))] H := hP
        have hD : va_D A [(m0, .inr (11, oX11 ra (upd (upd y123_0 4 2) 7 (y123_0 2)))), (ra 13, .inl (kI, 700, .inl q_tape))] := hD
        have hP9 := hP.sub (ws' := [(m0, .inr (11, oX11 ra (upd (upd y123_0 4 2) 7 (y123_0 2)))), (ra 13, .inl (kI, 700, .inl q_tape))]) [0, 1] rfl
        have hD9 := hD.sub (ws' := [(m0, .inr (11, oX11 ra (upd (upd y123_0 4 2) 7 (y123_0 2)))), (ra 13, .inl (kI, 700, .inl q_tape))]) [0, 1] (by decide) rfl
        exact W.vret hx hb hr (fun t ht hW => ⟨⟨(), rfl, trivial, upd (upd y123_0 4 2) 7 (y123_0 2), (fI_u (fI_u hI123_0 (k := 4) ((iv_w (iv_k (by decide) (by decide) : iv 2 2 2) (by decide) (by decide)))) (k := 7) ((hI123_0 2 : iv 0 700 (y123_0 2)))), (show (x0 2).toInt ≤ (y123_0 2).toInt from by omega), (show y123_0 3 = x0 3 from hts_123), (show 2 = 0 ∨ (x0 2).toInt + 1 ≤ (y123_0 2).toInt from Or.inr (by omega)), (show y123_0 1 = x0 1 from htp_123), by rw [ht]; exact hP9, hD9⟩, hS.F ht⟩) hS.2.2 dX11_stepOn_219
      · have b11 : iv 1 1 (isDg (byA q_tape (y123_0 3) (y123_0 2))) := iv_neLo c8 b7 (iv_k (by decide) (by decide) : iv 0 0 0) (by decide) (by decide)
        have b12 : iv 48 57 (byA q_tape (y123_0 3) (y123_0 2)) := isDg_iv (iv_ne b11 (iv_k (by decide) (by decide) : iv 0 0 0) (by decide))
        have b13 : iv 0 699 (y123_0 2) := (hq3).resolve_left (iv_ne b12 (iv_k (by decide) (by decide) : iv (-1) (-1) (-1)) (by decide))
        refine lv_aload_n hx hb dX11_stepOn_137 rfl (lv_at hl 0 rfl) ?_
        refine lv_ldc hx hb hown hw_3 dX11_stepOn_138 ?_
        refine lv_bipush (v := 10) hx hb dX11_stepOn_140 (by decide) ?_
        refine lv_aload_n hx hb dX11_stepOn_142 rfl (lv_at hl 0 rfl) ?_
        refine va_get (D := (dC, dI)) (ci := 11) (v := .int (y123_0 5)) (C := RX11) (T := TX11) (N := 61) hx hb hts hin11 hown hK hP 0 rfl rfl 19 (by decide) hw_4 (fun _ h9 => h9) rfl dX11_stepOn_143 ?_
        refine lv_imul hx hb dX11_stepOn_146 ?_
        refine lv_topi (fun z14 _ => ?_)
        refine lv_aload_n hx hb dX11_stepOn_147 rfl (lv_at hl 0 rfl) ?_
        refine lv_aload_n hx hb dX11_stepOn_148 rfl (lv_at hl 0 rfl) ?_
        refine va_get (D := (dC, dI)) (ci := 11) (v := .int (y123_0 2)) (C := RX11) (T := TX11) (N := 61) hx hb hts hin11 hown hK hP 0 rfl rfl 16 (by decide) hw_0 (fun _ h9 => h9) rfl dX11_stepOn_149 ?_
        have hPc := hP.sub (ws' := [(m0, .inr (11, oX11 ra y123_0)), (ra 13, .inl (kI, 700, .inl q_tape))]) [0, 1] rfl
        have hDc := hD.sub (ws' := [(m0, .inr (11, oX11 ra y123_0)), (ra 13, .inl (kI, 700, .inl q_tape))]) [0, 1] (by decide) rfl
        have hFc := va_free (wc := [(m0, .inr (11, oX11 ra y123_0)), (ra 13, .inl (kI, 700, .inl q_tape))]) hD hS hA [0, 1] rfl
        refine va_calli (va_runV (As := [.int (y123_0 2)]) (rest := [.int z14, .int 100000, .ref m0]) ⟨hx, hb, hml, hown, hts⟩ (s11_byteAt l dC dI kB kI kJ kZ kC kS H.size m0 ra y123_0 q_tape (y123_0 2) (hI123_0) (hq_tape) ((iv_w b13 (by decide) (by decide)))) (cwV 1 hts gX11_stepOn_X11_byteAt rfl rfl rfl (by decide +kernel) ⟨Nat.le_of_ble_eq_true rfl, Nat.le_of_ble_eq_true rfl⟩) ⟨fun a U g mk q => by obtain ⟨q0, q1, qP, qE, qD⟩ := q; exact ⟨q0, q1, qP, kE_call qE, qD⟩, va_recv hK hP (ci := 11) (q0 := 0) rfl rfl, fun U hU hW => ⟨rfl, by rw [hU], by rw [hU]; exact hPc, kE_warm hW hE, hDc.weaken (fun _ _ _ _ => trivial)⟩⟩ rfl rfl hl.1 rfl (lv_room (Nat.le_of_ble_eq_true rfl)) dX11_stepOn_152 ⟨Nat.le_of_ble_eq_true rfl, Nat.le_of_ble_eq_true rfl⟩) hS (fun q _ h => hFc q h) hFc (fun r15 u t H1 locs ht hvm w16 hB hz1 hk1 hS => ?_)
        obtain ⟨hq17, hP1, hD1⟩ := hB
        rw [ht] at hP1
        try dsimp only at w16
        obtain ⟨hP, hD⟩ := va_join (wr := []) (w1 := [(m0, .inr (11, oX11 ra y123_0)), (ra 13, .inl (kI, 700, .inl q_tape))]) hP hD [0, 1] [] rfl rfl (by decide) (by decide) hk1 hFc hP1 hD1
        generalize H1 = H at hP hS ⊢
        have hP : va_P (dC, dI) vwCl [(m0, .inr (11, oX11 ra y123_0)), (ra 13, .inl (kI, 700, .inl q_tape))] H := hP
        have hD : va_D A [(m0, .inr (11, oX11 ra y123_0)), (ra 13, .inl (kI, 700, .inl q_tape))] := hD
        refine W.widen (k := 0) (n := 0) (Nat.le_of_ble_eq_true rfl) (Nat.le_of_ble_eq_true rfl) ?_
        obtain ⟨w16, b18⟩ := w16
        subst w16
        refine lv_iadd hx hb dX11_stepOn_155 ?_
        refine lv_topi (fun z19 _ => ?_)
        refine lv_bipush (v := 48) hx hb dX11_stepOn_156 (by decide) ?_
        refine lv_isub hx hb dX11_stepOn_158 ?_
        refine lv_topi (fun z20 _ => ?_)
        refine va_mmin hx hb (by rw [hml]; exact hl.1.symm) hown hw_5 hw_6 hw_7 hw_8 (Nat.le_of_ble_eq_true rfl) (Nat.le_of_ble_eq_true rfl) (Nat.le_of_ble_eq_true rfl) (Nat.le_of_ble_eq_true rfl) dX11_stepOn_159 ?_
        refine iv_top (a := (-2147483648)) (b := 100000) (iv_min (iv_k (by decide) (by decide) : iv 100000 100000 100000) (iv_t z20) (by decide) (by decide)) (fun z21 b22 => ?_)
        refine va_put (D := (dC, dI)) (ci := 11) (v := .int z21) (ty := .int) (C := RX11) (T := TX11) (N := 61) hx hb hts hin11 tyX11 tyX11_ok nmX11 hown hK hP hD hS 0 rfl rfl 19 (by decide) hw_4 (fun _ h9 => h9) rfl (by decide +kernel) rfl rfl (Nat.le_of_ble_eq_true rfl) dX11_stepOn_162 (fun H locs hP hD hS => ?_)
        have hP : va_P (dC, dI) vwCl [(m0, .inr (11, oX11 ra (upd y123_0 5 z21))), (ra 13, .inl (kI, 700, .inl q_tape))] H := hP
        have hD : va_D A [(m0, .inr (11, oX11 ra (upd y123_0 5 z21))), (ra 13, .inl (kI, 700, .inl q_tape))] := hD
        refine lv_aload_n hx hb dX11_stepOn_165 rfl (lv_at hl 0 rfl) ?_
        refine lv_dup hx hb dX11_stepOn_166 rfl ?_
        refine va_get (D := (dC, dI)) (ci := 11) (v := .int (y123_0 2)) (C := RX11) (T := TX11) (N := 61) hx hb hts hin11 hown hK hP 0 rfl rfl 16 (by decide) hw_0 (fun _ h9 => h9) rfl dX11_stepOn_167 ?_
        refine lv_iconst (v := 1) hx hb dX11_stepOn_170 (by decide) ?_
        refine lv_iadd hx hb dX11_stepOn_171 ?_
        have b23 : iv 1 700 ((y123_0 2) + 1) := iv_add b13 (iv_k (by decide) (by decide) : iv 1 1 1) (by decide) (by decide) (by decide) (by decide)
        have t24 : ((y123_0 2) + 1).toInt = (y123_0 2).toInt + 1 := iv_addc b13 (by decide) (by decide) (by decide)
        refine va_put (D := (dC, dI)) (ci := 11) (v := .int ((y123_0 2) + 1)) (ty := .int) (C := RX11) (T := TX11) (N := 61) hx hb hts hin11 tyX11 tyX11_ok nmX11 hown hK hP hD hS 0 rfl rfl 16 (by decide) hw_0 (fun _ h9 => h9) rfl (by decide +kernel) rfl rfl (Nat.le_of_ble_eq_true rfl) dX11_stepOn_172 (fun H locs hP hD hS => ?_)
        have hP : va_P (dC, dI) vwCl [(m0, .inr (11, oX11 ra (upd (upd y123_0 5 z21) 2 ((y123_0 2) + 1)))), (ra 13, .inl (kI, 700, .inl q_tape))] H := hP
        have hD : va_D A [(m0, .inr (11, oX11 ra (upd (upd y123_0 5 z21) 2 ((y123_0 2) + 1)))), (ra 13, .inl (kI, 700, .inl q_tape))] := hD
        refine lv_goto (tgt := 123) hx hb dX11_stepOn_175 (by decide) ?_
        exact ih123 (upd (upd y123_0 5 z21) 2 ((y123_0 2) + 1)) v123_loc1 _ _ _ (ms_up (c := 1) (d := 0) b13 hm123 (by decide) (iv_addc b13 (by decide) (by decide) (by decide)) (by decide) rfl) ((fI_u (fI_u hI123_0 (k := 5) ((iv_w b22 (by decide) (by decide)))) (k := 2) ((iv_w b23 (by decide) (by decide))))) (h123_2) (h123_3) ((show (x0 2).toInt + 1 ≤ ((y123_0 2) + 1).toInt ∨ ¬ isDg (byA q_tape (x0 3) ((y123_0 2) + 1)) = 0 from Or.inl (by have q := hat_123; omega))) ((show (x0 2).toInt ≤ ((y123_0 2) + 1).toInt from by omega)) ((show y123_0 3 = x0 3 from hts_123)) ((show y123_0 1 = x0 1 from htp_123)) (hP.sub [0, 1] rfl) (hD.sub [0, 1] (by decide) rfl) hS (lv_sub hl [0, 1] rfl)
  have hJ76 : ∀ (n : Nat) (y76_0 : Nat → Int32) (v76_loc1 : Int32) (H : Heap) (locs : List Loc) (ls : Array Slot), (700 - (y76_0 2).toInt).toNat < n → fI lX11 hX11 y76_0 → iv 97 122 v76_loc1 → iv 0 699 (y76_0 6) → ((x0 2).toInt + 1 ≤ (y76_0 2).toInt ∨ ¬ isLt (byA q_tape (x0 3) (y76_0 2)) = 0) → ((x0 2).toInt ≤ (y76_0 2).toInt) → (y76_0 3 = x0 3) → (y76_0 1 = x0 1) → va_P (dC, dI) vwCl [(m0, .inr (11, oX11 ra y76_0)), (ra 13, .inl (kI, 700, .inl q_tape))] H → va_D A [(m0, .inr (11, oX11 ra y76_0)), (ra 13, .inl (kI, 700, .inl q_tape))] → va_S A s.heap H locs → lv_has ls 2 [(0, .ref m0), (1, .int v76_loc1)] → W p l e (headSpec wsX11_stepOn rm_s11_stepOn).room s m args0 below meth c H locs (0) (0) (MQ below (va_Qv (fun (_ : Unit) => True) (fun _ t => ∃ (x0' : Nat → Int32), fI lX11 hX11 x0' ∧ ((x0 2).toInt ≤ (x0' 2).toInt) ∧ (x0' 3 = x0 3) ∧ (x0' 4 = 0 ∨ (x0 2).toInt + 1 ≤ (x0' 2).toInt) ∧ (x0' 1 = x0 1) ∧ va_P (dC, dI) vwCl [(m0, .inr (11, oX11 ra x0')), (ra 13, .inl (kI, 700, .inl q_tape))] t.heap ∧ va_D A [(m0, .inr (11, oX11 ra x0')), (ra 13, .inl (kI, 700, .inl q_tape))]) A) args0 s 0 0 A) (F0 m 76 ls []) := by
    intro n
    induction n with
    | zero => intro y76_0 v76_loc1 H locs ls hm76; exact absurd hm76 (Nat.not_lt_zero _)
    | succ n ih76 =>
      intro y76_0 v76_loc1 H locs ls hm76 hI76_0 h76_2 h76_3 hsx_76 hat_76 hts_76 htp_76 hP hD hS hl
      refine lv_aload_n hx hb dX11_stepOn_76 rfl (lv_at hl 0 rfl) ?_
      refine lv_aload_n hx hb dX11_stepOn_77 rfl (lv_at hl 0 rfl) ?_
      refine va_get (D := (dC, dI)) (ci := 11) (v := .int (y76_0 2)) (C := RX11) (T := TX11) (N := 61) hx hb hts hin11 hown hK hP 0 rfl rfl 16 (by decide) hw_0 (fun _ h9 => h9) rfl dX11_stepOn_78 ?_
      have hPc := hP.sub (ws' := [(m0, .inr (11, oX11 ra y76_0)), (ra 13, .inl (kI, 700, .inl q_tape))]) [0, 1] rfl
      have hDc := hD.sub (ws' := [(m0, .inr (11, oX11 ra y76_0)), (ra 13, .inl (kI, 700, .inl q_tape))]) [0, 1] (by decide) rfl
      have hFc := va_free (wc := [(m0, .inr (11, oX11 ra y76_0)), (ra 13, .inl (kI, 700, .inl q_tape))]) hD hS hA [0, 1] rfl
      refine va_calli (va_runV (As := [.int (y76_0 2)]) (rest := []) ⟨hx, hb, hml, hown, hts⟩ (s11_byteAt l dC dI kB kI kJ kZ kC kS H.size m0 ra y76_0 q_tape (y76_0 2) (hI76_0) (hq_tape) ((hI76_0 2 : iv 0 700 (y76_0 2)))) (cwV 1 hts gX11_stepOn_X11_byteAt rfl rfl rfl (by decide +kernel) ⟨Nat.le_of_ble_eq_true rfl, Nat.le_of_ble_eq_true rfl⟩) ⟨fun a U g mk q => by obtain ⟨q0, q1, qP, qE, qD⟩ := q; exact ⟨q0, q1, qP, kE_call qE, qD⟩, va_recv hK hP (ci := 11) (q0 := 0) rfl rfl, fun U hU hW => ⟨rfl, by rw [hU], by rw [hU]; exact hPc, kE_warm hW hE, hDc.weaken (fun _ _ _ _ => trivial)⟩⟩ rfl rfl hl.1 rfl (lv_room (Nat.le_of_ble_eq_true rfl)) dX11_stepOn_81 ⟨Nat.le_of_ble_eq_true rfl, Nat.le_of_ble_eq_true rfl⟩) hS (fun q _ h => hFc q h) hFc (fun r25 u t H1 locs ht hvm w26 hB hz1 hk1 hS => ?_)
      obtain ⟨hq27, hP1, hD1⟩ := hB
      rw [ht] at hP1
      try dsimp only at w26
      obtain ⟨hP, hD⟩ := va_join (wr := []) (w1 := [(m0, .inr (11, oX11 ra y76_0)), (ra 13, .inl (kI, 700, .inl q_tape))]) hP hD [0, 1] [] rfl rfl (by decide) (by decide) hk1 hFc hP1 hD1
      generalize H1 = H at hP hS ⊢
      have hP : va_P (dC, dI) vwCl [(m0, .inr (11, oX11 ra y76_0)), (ra 13, .inl (kI, 700, .inl q_tape))] H := hP
      have hD : va_D A [(m0, .inr (11, oX11 ra y76_0)), (ra 13, .inl (kI, 700, .inl q_tape))] := hD
      refine W.widen (k := 0) (n := 0) (Nat.le_of_ble_eq_true rfl) (Nat.le_of_ble_eq_true rfl) ?_
      obtain ⟨w26, b28⟩ := w26
      subst w26
      have hPc := hP.sub (ws' := []) [] rfl
      have hDc := hD.sub (ws' := []) [] (by decide) rfl
      have hFc := va_free (wc := []) hD hS hA [] rfl
      refine va_calli (va_runS (As := [.int (byA q_tape (y76_0 3) (y76_0 2))]) (rest := []) ⟨hx, hb, hml, hown, hts⟩ (s11_isLetter l dC dI kB kI kJ kZ kC kS H.size (byA q_tape (y76_0 3) (y76_0 2))) (va_cwS 1 hts gX11_stepOn_X11_isLetter rfl rfl rfl (by decide +kernel) ⟨Nat.le_of_ble_eq_true rfl, Nat.le_of_ble_eq_true rfl⟩) ⟨fun a U g mk q => by obtain ⟨q0, q1, qP, qE, qD⟩ := q; exact ⟨q0, q1, qP, kE_call qE, qD⟩, fun U hU hW => ⟨rfl, by rw [hU], by rw [hU]; exact hPc, kE_warm hW hE, hDc.weaken (fun _ _ _ _ => trivial)⟩⟩ rfl rfl hl.1 rfl (lv_room (Nat.le_of_ble_eq_true rfl)) dX11_stepOn_84 ⟨Nat.le_of_ble_eq_true rfl, Nat.le_of_ble_eq_true rfl⟩) hS (fun q _ h => hFc q h) hFc (fun r29 u t H1 locs ht hvm w30 hB hz1 hk1 hS => ?_)
      obtain ⟨hP1, hD1⟩ := hB
      rw [ht] at hP1
      try dsimp only at w30
      obtain ⟨hP, hD⟩ := va_join (wr := [(m0, .inr (11, oX11 ra y76_0)), (ra 13, .inl (kI, 700, .inl q_tape))]) (w1 := []) hP hD [] [0, 1] rfl rfl (by decide) (by decide) hk1 hFc hP1 hD1
      generalize H1 = H at hP hS ⊢
      have hP : va_P (dC, dI) vwCl [(m0, .inr (11, oX11 ra y76_0)), (ra 13, .inl (kI, 700, .inl q_tape))] H := hP
      have hD : va_D A [(m0, .inr (11, oX11 ra y76_0)), (ra 13, .inl (kI, 700, .inl q_tape))] := hD
      refine W.widen (k := 0) (n := 0) (Nat.le_of_ble_eq_true rfl) (Nat.le_of_ble_eq_true rfl) ?_
      obtain ⟨w30, b31⟩ := w30
      subst w30
      refine lv_if_eq (tgt := 103) hx hb dX11_stepOn_87 (by decide) (fun c32 => ?_) (fun c32 => ?_)
      · have b33 : iv 0 0 (isLt (byA q_tape (y76_0 3) (y76_0 2))) := iv_eqL c32 (iv_k (by decide) (by decide) : iv 0 0 0)
        have hst34 : (x0 2).toInt + 1 ≤ (y76_0 2).toInt := hsx_76.resolve_right (fun w => w (by have q := c32; rw [hts_76] at q; exact q))
        refine lv_aload_n hx hb dX11_stepOn_103 rfl (lv_at hl 0 rfl) ?_
        refine lv_iconst (v := 1) hx hb dX11_stepOn_104 (by decide) ?_
        refine va_put (D := (dC, dI)) (ci := 11) (v := .int 1) (ty := .int) (C := RX11) (T := TX11) (N := 61) hx hb hts hin11 tyX11 tyX11_ok nmX11 hown hK hP hD hS 0 rfl rfl 18 (by decide) hw_1 (fun _ h9 => h9) rfl (by decide +kernel) rfl rfl (Nat.le_of_ble_eq_true rfl) dX11_stepOn_105 (fun H locs hP hD hS => ?_)
        have hP : va_P (dC, dI) vwCl [(m0, .inr (11, oX11 ra (upd y76_0 4 1))), (ra 13, .inl (kI, 700, .inl q_tape))] H := hP
        have hD : va_D A [(m0, .inr (11, oX11 ra (upd y76_0 4 1))), (ra 13, .inl (kI, 700, .inl q_tape))] := hD
        refine lv_goto (tgt := 211) hx hb dX11_stepOn_108 (by decide) ?_
        refine lv_aload_n hx hb dX11_stepOn_211 rfl (lv_at hl 0 rfl) ?_
        refine lv_aload_n hx hb dX11_stepOn_212 rfl (lv_at hl 0 rfl) ?_
        refine va_get (D := (dC, dI)) (ci := 11) (v := .int (y76_0 2)) (C := RX11) (T := TX11) (N := 61) hx hb hts hin11 hown hK hP 0 rfl rfl 16 (by decide) hw_0 (fun _ h9 => h9) rfl dX11_stepOn_213 ?_
        refine va_put (D := (dC, dI)) (ci := 11) (v := .int (y76_0 2)) (ty := .int) (C := RX11) (T := TX11) (N := 61) hx hb hts hin11 tyX11 tyX11_ok nmX11 hown hK hP hD hS 0 rfl rfl 21 (by decide) hw_2 (fun _ h9 => h9) rfl (by decide +kernel) rfl rfl (Nat.le_of_ble_eq_true rfl) dX11_stepOn_216 (fun H locs hP hD hS => ?_)
        have hP : va_P (dC, dI) vwCl [(m0, .inr (11, oX11 ra (upd (upd y76_0 4 1) 7 (y76_0 2)))), (ra 13, .inl (kI, 700, .inl q_tape))] H := hP
        have hD : va_D A [(m0, .inr (11, oX11 ra (upd (upd y76_0 4 1) 7 (y76_0 2)))), (ra 13, .inl (kI, 700, .inl q_tape))] := hD
        have hP9 := hP.sub (ws' := [(m0, .inr (11, oX11 ra (upd (upd y76_0 4 1) 7 (y76_0 2)))), (ra 13, .inl (kI, 700, .inl q_tape))]) [0, 1] rfl
        have hD9 := hD.sub (ws' := [(m0, .inr (11, oX11 ra (upd (upd y76_0 4 1) 7 (y76_0 2)))), (ra 13, .inl (kI, 700, .inl q_tape))]) [0, 1] (by decide) rfl
        exact W.vret hx hb hr (fun t ht hW => ⟨⟨(), rfl, trivial, upd (upd y76_0 4 1) 7 (y76_0 2), (fI_u (fI_u hI76_0 (k := 4) ((iv_w (iv_k (by decide) (by decide) : iv 1 1 1) (by decide) (by decide)))) (k := 7) ((hI76_0 2 : iv 0 700 (y76_0 2)))), (show (x0 2).toInt ≤ (y76_0 2).toInt from by omega), (show y76_0 3 = x0 3 from hts_76), (show 1 = 0 ∨ (x0 2).toInt + 1 ≤ (y76_0 2).toInt from Or.inr (by omega)), (show y76_0 1 = x0 1 from htp_76), by rw [ht]; exact hP9, hD9⟩, hS.F ht⟩) hS.2.2 dX11_stepOn_219
      · have b35 : iv 1 1 (isLt (byA q_tape (y76_0 3) (y76_0 2))) := iv_neLo c32 b31 (iv_k (by decide) (by decide) : iv 0 0 0) (by decide) (by decide)
        have b36 : iv 97 122 (byA q_tape (y76_0 3) (y76_0 2)) := isLt_iv (iv_ne b35 (iv_k (by decide) (by decide) : iv 0 0 0) (by decide))
        have b37 : iv 0 699 (y76_0 2) := (hq27).resolve_left (iv_ne b36 (iv_k (by decide) (by decide) : iv (-1) (-1) (-1)) (by decide))
        refine lv_aload_n hx hb dX11_stepOn_90 rfl (lv_at hl 0 rfl) ?_
        refine lv_dup hx hb dX11_stepOn_91 rfl ?_
        refine va_get (D := (dC, dI)) (ci := 11) (v := .int (y76_0 2)) (C := RX11) (T := TX11) (N := 61) hx hb hts hin11 hown hK hP 0 rfl rfl 16 (by decide) hw_0 (fun _ h9 => h9) rfl dX11_stepOn_92 ?_
        refine lv_iconst (v := 1) hx hb dX11_stepOn_95 (by decide) ?_
        refine lv_iadd hx hb dX11_stepOn_96 ?_
        have b38 : iv 1 700 ((y76_0 2) + 1) := iv_add b37 (iv_k (by decide) (by decide) : iv 1 1 1) (by decide) (by decide) (by decide) (by decide)
        have t39 : ((y76_0 2) + 1).toInt = (y76_0 2).toInt + 1 := iv_addc b37 (by decide) (by decide) (by decide)
        refine va_put (D := (dC, dI)) (ci := 11) (v := .int ((y76_0 2) + 1)) (ty := .int) (C := RX11) (T := TX11) (N := 61) hx hb hts hin11 tyX11 tyX11_ok nmX11 hown hK hP hD hS 0 rfl rfl 16 (by decide) hw_0 (fun _ h9 => h9) rfl (by decide +kernel) rfl rfl (Nat.le_of_ble_eq_true rfl) dX11_stepOn_97 (fun H locs hP hD hS => ?_)
        have hP : va_P (dC, dI) vwCl [(m0, .inr (11, oX11 ra (upd y76_0 2 ((y76_0 2) + 1)))), (ra 13, .inl (kI, 700, .inl q_tape))] H := hP
        have hD : va_D A [(m0, .inr (11, oX11 ra (upd y76_0 2 ((y76_0 2) + 1)))), (ra 13, .inl (kI, 700, .inl q_tape))] := hD
        refine lv_goto (tgt := 76) hx hb dX11_stepOn_100 (by decide) ?_
        exact ih76 (upd y76_0 2 ((y76_0 2) + 1)) v76_loc1 _ _ _ (ms_up (c := 1) (d := 0) b37 hm76 (by decide) (iv_addc b37 (by decide) (by decide) (by decide)) (by decide) rfl) ((fI_u hI76_0 (k := 2) ((iv_w b38 (by decide) (by decide))))) (h76_2) (h76_3) ((show (x0 2).toInt + 1 ≤ ((y76_0 2) + 1).toInt ∨ ¬ isLt (byA q_tape (x0 3) ((y76_0 2) + 1)) = 0 from Or.inl (by have q := hat_76; omega))) ((show (x0 2).toInt ≤ ((y76_0 2) + 1).toInt from by omega)) ((show y76_0 3 = x0 3 from hts_76)) ((show y76_0 1 = x0 1 from htp_76)) (hP.sub [0, 1] rfl) (hD.sub [0, 1] (by decide) rfl) hS (lv_sub hl [0, 1] rfl)
  have hJ0 : ∀ (n : Nat) (y0_0 : Nat → Int32) (H : Heap) (locs : List Loc) (ls : Array Slot), (700 - (y0_0 2).toInt).toNat < n → fI lX11 hX11 y0_0 → ((x0 2).toInt ≤ (y0_0 2).toInt) → (y0_0 3 = x0 3) → (y0_0 1 = x0 1) → va_P (dC, dI) vwCl [(m0, .inr (11, oX11 ra y0_0)), (ra 13, .inl (kI, 700, .inl q_tape))] H → va_D A [(m0, .inr (11, oX11 ra y0_0)), (ra 13, .inl (kI, 700, .inl q_tape))] → va_S A s.heap H locs → lv_has ls 2 [(0, .ref m0)] → W p l e (headSpec wsX11_stepOn rm_s11_stepOn).room s m args0 below meth c H locs (0) (0) (MQ below (va_Qv (fun (_ : Unit) => True) (fun _ t => ∃ (x0' : Nat → Int32), fI lX11 hX11 x0' ∧ ((x0 2).toInt ≤ (x0' 2).toInt) ∧ (x0' 3 = x0 3) ∧ (x0' 4 = 0 ∨ (x0 2).toInt + 1 ≤ (x0' 2).toInt) ∧ (x0' 1 = x0 1) ∧ va_P (dC, dI) vwCl [(m0, .inr (11, oX11 ra x0')), (ra 13, .inl (kI, 700, .inl q_tape))] t.heap ∧ va_D A [(m0, .inr (11, oX11 ra x0')), (ra 13, .inl (kI, 700, .inl q_tape))]) A) args0 s 0 0 A) (F0 m 0 ls []) := by
    intro n
    induction n with
    | zero => intro y0_0 H locs ls hm0; exact absurd hm0 (Nat.not_lt_zero _)
    | succ n ih0 =>
      intro y0_0 H locs ls hm0 hI0_0 hat_0 hts_0 htp_0 hP hD hS hl
      refine lv_aload_n hx hb dX11_stepOn_0 rfl (lv_at hl 0 rfl) ?_
      refine lv_aload_n hx hb dX11_stepOn_1 rfl (lv_at hl 0 rfl) ?_
      refine va_get (D := (dC, dI)) (ci := 11) (v := .int (y0_0 2)) (C := RX11) (T := TX11) (N := 61) hx hb hts hin11 hown hK hP 0 rfl rfl 16 (by decide) hw_0 (fun _ h9 => h9) rfl dX11_stepOn_2 ?_
      have hPc := hP.sub (ws' := [(m0, .inr (11, oX11 ra y0_0)), (ra 13, .inl (kI, 700, .inl q_tape))]) [0, 1] rfl
      have hDc := hD.sub (ws' := [(m0, .inr (11, oX11 ra y0_0)), (ra 13, .inl (kI, 700, .inl q_tape))]) [0, 1] (by decide) rfl
      have hFc := va_free (wc := [(m0, .inr (11, oX11 ra y0_0)), (ra 13, .inl (kI, 700, .inl q_tape))]) hD hS hA [0, 1] rfl
      refine va_calli (va_runV (As := [.int (y0_0 2)]) (rest := []) ⟨hx, hb, hml, hown, hts⟩ (s11_byteAt l dC dI kB kI kJ kZ kC kS H.size m0 ra y0_0 q_tape (y0_0 2) (hI0_0) (hq_tape) ((hI0_0 2 : iv 0 700 (y0_0 2)))) (cwV 1 hts gX11_stepOn_X11_byteAt rfl rfl rfl (by decide +kernel) ⟨Nat.le_of_ble_eq_true rfl, Nat.le_of_ble_eq_true rfl⟩) ⟨fun a U g mk q => by obtain ⟨q0, q1, qP, qE, qD⟩ := q; exact ⟨q0, q1, qP, kE_call qE, qD⟩, va_recv hK hP (ci := 11) (q0 := 0) rfl rfl, fun U hU hW => ⟨rfl, by rw [hU], by rw [hU]; exact hPc, kE_warm hW hE, hDc.weaken (fun _ _ _ _ => trivial)⟩⟩ rfl rfl hl.1 rfl (lv_room (Nat.le_of_ble_eq_true rfl)) dX11_stepOn_5 ⟨Nat.le_of_ble_eq_true rfl, Nat.le_of_ble_eq_true rfl⟩) hS (fun q _ h => hFc q h) hFc (fun r40 u t H1 locs ht hvm w41 hB hz1 hk1 hS => ?_)
      obtain ⟨hq42, hP1, hD1⟩ := hB
      rw [ht] at hP1
      try dsimp only at w41
      obtain ⟨hP, hD⟩ := va_join (wr := []) (w1 := [(m0, .inr (11, oX11 ra y0_0)), (ra 13, .inl (kI, 700, .inl q_tape))]) hP hD [0, 1] [] rfl rfl (by decide) (by decide) hk1 hFc hP1 hD1
      generalize H1 = H at hP hS ⊢
      have hP : va_P (dC, dI) vwCl [(m0, .inr (11, oX11 ra y0_0)), (ra 13, .inl (kI, 700, .inl q_tape))] H := hP
      have hD : va_D A [(m0, .inr (11, oX11 ra y0_0)), (ra 13, .inl (kI, 700, .inl q_tape))] := hD
      refine W.widen (k := 0) (n := 0) (Nat.le_of_ble_eq_true rfl) (Nat.le_of_ble_eq_true rfl) ?_
      obtain ⟨w41, b43⟩ := w41
      subst w41
      refine lv_bipush (v := 32) hx hb dX11_stepOn_8 (by decide) ?_
      refine lv_icmp_eq (tgt := 26) hx hb dX11_stepOn_10 (by decide) (fun c44 => ?_) (fun c44 => ?_)
      · have b45 : iv 32 32 (byA q_tape (y0_0 3) (y0_0 2)) := iv_eqL c44 (iv_k (by decide) (by decide) : iv 32 32 32)
        have b46 : iv 0 699 (y0_0 2) := (hq42).resolve_left (iv_ne b45 (iv_k (by decide) (by decide) : iv (-1) (-1) (-1)) (by decide))
        refine lv_aload_n hx hb dX11_stepOn_26 rfl (lv_at hl 0 rfl) ?_
        refine lv_dup hx hb dX11_stepOn_27 rfl ?_
        refine va_get (D := (dC, dI)) (ci := 11) (v := .int (y0_0 2)) (C := RX11) (T := TX11) (N := 61) hx hb hts hin11 hown hK hP 0 rfl rfl 16 (by decide) hw_0 (fun _ h9 => h9) rfl dX11_stepOn_28 ?_
        refine lv_iconst (v := 1) hx hb dX11_stepOn_31 (by decide) ?_
        refine lv_iadd hx hb dX11_stepOn_32 ?_
        have b47 : iv 1 700 ((y0_0 2) + 1) := iv_add b46 (iv_k (by decide) (by decide) : iv 1 1 1) (by decide) (by decide) (by decide) (by decide)
        have t48 : ((y0_0 2) + 1).toInt = (y0_0 2).toInt + 1 := iv_addc b46 (by decide) (by decide) (by decide)
        refine va_put (D := (dC, dI)) (ci := 11) (v := .int ((y0_0 2) + 1)) (ty := .int) (C := RX11) (T := TX11) (N := 61) hx hb hts hin11 tyX11 tyX11_ok nmX11 hown hK hP hD hS 0 rfl rfl 16 (by decide) hw_0 (fun _ h9 => h9) rfl (by decide +kernel) rfl rfl (Nat.le_of_ble_eq_true rfl) dX11_stepOn_33 (fun H locs hP hD hS => ?_)
        have hP : va_P (dC, dI) vwCl [(m0, .inr (11, oX11 ra (upd y0_0 2 ((y0_0 2) + 1)))), (ra 13, .inl (kI, 700, .inl q_tape))] H := hP
        have hD : va_D A [(m0, .inr (11, oX11 ra (upd y0_0 2 ((y0_0 2) + 1)))), (ra 13, .inl (kI, 700, .inl q_tape))] := hD
        refine lv_goto (tgt := 0) hx hb dX11_stepOn_36 (by decide) ?_
        exact ih0 (upd y0_0 2 ((y0_0 2) + 1)) _ _ _ (ms_up (c := 1) (d := 0) b46 hm0 (by decide) (iv_addc b46 (by decide) (by decide) (by decide)) (by decide) rfl) ((fI_u hI0_0 (k := 2) ((iv_w b47 (by decide) (by decide))))) ((show (x0 2).toInt ≤ ((y0_0 2) + 1).toInt from by omega)) ((show y0_0 3 = x0 3 from hts_0)) ((show y0_0 1 = x0 1 from htp_0)) (hP.sub [0, 1] rfl) (hD.sub [0, 1] (by decide) rfl) hS (lv_sub hl [0] rfl)
      · refine lv_aload_n hx hb dX11_stepOn_13 rfl (lv_at hl 0 rfl) ?_
        refine lv_aload_n hx hb dX11_stepOn_14 rfl (lv_at hl 0 rfl) ?_
        refine va_get (D := (dC, dI)) (ci := 11) (v := .int (y0_0 2)) (C := RX11) (T := TX11) (N := 61) hx hb hts hin11 hown hK hP 0 rfl rfl 16 (by decide) hw_0 (fun _ h9 => h9) rfl dX11_stepOn_15 ?_
        have hPc := hP.sub (ws' := [(m0, .inr (11, oX11 ra y0_0)), (ra 13, .inl (kI, 700, .inl q_tape))]) [0, 1] rfl
        have hDc := hD.sub (ws' := [(m0, .inr (11, oX11 ra y0_0)), (ra 13, .inl (kI, 700, .inl q_tape))]) [0, 1] (by decide) rfl
        have hFc := va_free (wc := [(m0, .inr (11, oX11 ra y0_0)), (ra 13, .inl (kI, 700, .inl q_tape))]) hD hS hA [0, 1] rfl
        refine va_calli (va_runV (As := [.int (y0_0 2)]) (rest := []) ⟨hx, hb, hml, hown, hts⟩ (s11_byteAt l dC dI kB kI kJ kZ kC kS H.size m0 ra y0_0 q_tape (y0_0 2) (hI0_0) (hq_tape) ((hI0_0 2 : iv 0 700 (y0_0 2)))) (cwV 1 hts gX11_stepOn_X11_byteAt rfl rfl rfl (by decide +kernel) ⟨Nat.le_of_ble_eq_true rfl, Nat.le_of_ble_eq_true rfl⟩) ⟨fun a U g mk q => by obtain ⟨q0, q1, qP, qE, qD⟩ := q; exact ⟨q0, q1, qP, kE_call qE, qD⟩, va_recv hK hP (ci := 11) (q0 := 0) rfl rfl, fun U hU hW => ⟨rfl, by rw [hU], by rw [hU]; exact hPc, kE_warm hW hE, hDc.weaken (fun _ _ _ _ => trivial)⟩⟩ rfl rfl hl.1 rfl (lv_room (Nat.le_of_ble_eq_true rfl)) dX11_stepOn_18 ⟨Nat.le_of_ble_eq_true rfl, Nat.le_of_ble_eq_true rfl⟩) hS (fun q _ h => hFc q h) hFc (fun r49 u t H1 locs ht hvm w50 hB hz1 hk1 hS => ?_)
        obtain ⟨hq51, hP1, hD1⟩ := hB
        rw [ht] at hP1
        try dsimp only at w50
        obtain ⟨hP, hD⟩ := va_join (wr := []) (w1 := [(m0, .inr (11, oX11 ra y0_0)), (ra 13, .inl (kI, 700, .inl q_tape))]) hP hD [0, 1] [] rfl rfl (by decide) (by decide) hk1 hFc hP1 hD1
        generalize H1 = H at hP hS ⊢
        have hP : va_P (dC, dI) vwCl [(m0, .inr (11, oX11 ra y0_0)), (ra 13, .inl (kI, 700, .inl q_tape))] H := hP
        have hD : va_D A [(m0, .inr (11, oX11 ra y0_0)), (ra 13, .inl (kI, 700, .inl q_tape))] := hD
        refine W.widen (k := 0) (n := 0) (Nat.le_of_ble_eq_true rfl) (Nat.le_of_ble_eq_true rfl) ?_
        obtain ⟨w50, b52⟩ := w50
        subst w50
        refine lv_bipush (v := 10) hx hb dX11_stepOn_21 (by decide) ?_
        refine lv_icmp_ne (tgt := 39) hx hb dX11_stepOn_23 (by decide) (fun c53 => ?_) (fun c53 => ?_)
        · refine lv_aload_n hx hb dX11_stepOn_39 rfl (lv_at hl 0 rfl) ?_
          refine lv_aload_n hx hb dX11_stepOn_40 rfl (lv_at hl 0 rfl) ?_
          refine va_get (D := (dC, dI)) (ci := 11) (v := .int (y0_0 2)) (C := RX11) (T := TX11) (N := 61) hx hb hts hin11 hown hK hP 0 rfl rfl 16 (by decide) hw_0 (fun _ h9 => h9) rfl dX11_stepOn_41 ?_
          refine va_put (D := (dC, dI)) (ci := 11) (v := .int (y0_0 2)) (ty := .int) (C := RX11) (T := TX11) (N := 61) hx hb hts hin11 tyX11 tyX11_ok nmX11 hown hK hP hD hS 0 rfl rfl 20 (by decide) hw_9 (fun _ h9 => h9) rfl (by decide +kernel) rfl rfl (Nat.le_of_ble_eq_true rfl) dX11_stepOn_44 (fun H locs hP hD hS => ?_)
          have hP : va_P (dC, dI) vwCl [(m0, .inr (11, oX11 ra (upd y0_0 6 (y0_0 2)))), (ra 13, .inl (kI, 700, .inl q_tape))] H := hP
          have hD : va_D A [(m0, .inr (11, oX11 ra (upd y0_0 6 (y0_0 2)))), (ra 13, .inl (kI, 700, .inl q_tape))] := hD
          refine lv_aload_n hx hb dX11_stepOn_47 rfl (lv_at hl 0 rfl) ?_
          refine lv_aload_n hx hb dX11_stepOn_48 rfl (lv_at hl 0 rfl) ?_
          refine va_get (D := (dC, dI)) (ci := 11) (v := .int (y0_0 2)) (C := RX11) (T := TX11) (N := 61) hx hb hts hin11 hown hK hP 0 rfl rfl 16 (by decide) hw_0 (fun _ h9 => h9) rfl dX11_stepOn_49 ?_
          have hPc := hP.sub (ws' := [(m0, .inr (11, oX11 ra (upd y0_0 6 (y0_0 2)))), (ra 13, .inl (kI, 700, .inl q_tape))]) [0, 1] rfl
          have hDc := hD.sub (ws' := [(m0, .inr (11, oX11 ra (upd y0_0 6 (y0_0 2)))), (ra 13, .inl (kI, 700, .inl q_tape))]) [0, 1] (by decide) rfl
          have hFc := va_free (wc := [(m0, .inr (11, oX11 ra (upd y0_0 6 (y0_0 2)))), (ra 13, .inl (kI, 700, .inl q_tape))]) hD hS hA [0, 1] rfl
          refine va_calli (va_runV (As := [.int (y0_0 2)]) (rest := []) ⟨hx, hb, hml, hown, hts⟩ (s11_byteAt l dC dI kB kI kJ kZ kC kS H.size m0 ra (upd y0_0 6 (y0_0 2)) q_tape (y0_0 2) ((fI_u hI0_0 (k := 6) ((hI0_0 2 : iv 0 700 (y0_0 2))))) (hq_tape) ((hI0_0 2 : iv 0 700 (y0_0 2)))) (cwV 1 hts gX11_stepOn_X11_byteAt rfl rfl rfl (by decide +kernel) ⟨Nat.le_of_ble_eq_true rfl, Nat.le_of_ble_eq_true rfl⟩) ⟨fun a U g mk q => by obtain ⟨q0, q1, qP, qE, qD⟩ := q; exact ⟨q0, q1, qP, kE_call qE, qD⟩, va_recv hK hP (ci := 11) (q0 := 0) rfl rfl, fun U hU hW => ⟨rfl, by rw [hU], by rw [hU]; exact hPc, kE_warm hW hE, hDc.weaken (fun _ _ _ _ => trivial)⟩⟩ rfl rfl hl.1 rfl (lv_room (Nat.le_of_ble_eq_true rfl)) dX11_stepOn_52 ⟨Nat.le_of_ble_eq_true rfl, Nat.le_of_ble_eq_true rfl⟩) hS (fun q _ h => hFc q h) hFc (fun r54 u t H1 locs ht hvm w55 hB hz1 hk1 hS => ?_)
          obtain ⟨hq56, hP1, hD1⟩ := hB
          rw [ht] at hP1
          try dsimp only at w55
          obtain ⟨hP, hD⟩ := va_join (wr := []) (w1 := [(m0, .inr (11, oX11 ra (upd y0_0 6 (y0_0 2)))), (ra 13, .inl (kI, 700, .inl q_tape))]) hP hD [0, 1] [] rfl rfl (by decide) (by decide) hk1 hFc hP1 hD1
          generalize H1 = H at hP hS ⊢
          have hP : va_P (dC, dI) vwCl [(m0, .inr (11, oX11 ra (upd y0_0 6 (y0_0 2)))), (ra 13, .inl (kI, 700, .inl q_tape))] H := hP
          have hD : va_D A [(m0, .inr (11, oX11 ra (upd y0_0 6 (y0_0 2)))), (ra 13, .inl (kI, 700, .inl q_tape))] := hD
          refine W.widen (k := 0) (n := 0) (Nat.le_of_ble_eq_true rfl) (Nat.le_of_ble_eq_true rfl) ?_
          obtain ⟨w55, b57⟩ := w55
          subst w55
          refine lv_istore_n (lv' := [(1, .int (byA q_tape (y0_0 3) (y0_0 2))), (0, .ref m0)]) hx hb dX11_stepOn_55 rfl hl (by decide) rfl (fun ls hl => ?_)
          refine lv_iload_n hx hb dX11_stepOn_56 rfl (lv_at hl 0 rfl) ?_
          refine lv_iconst (v := (-1)) hx hb dX11_stepOn_57 (by decide) ?_
          refine lv_icmp_ne (tgt := 69) hx hb dX11_stepOn_58 (by decide) (fun c58 => ?_) (fun c58 => ?_)
          · have b59 : iv 0 255 (byA q_tape (y0_0 3) (y0_0 2)) := iv_neLo c58 b43 (iv_k (by decide) (by decide) : iv (-1) (-1) (-1)) (by decide) (by decide)
            have b60 : iv 0 699 (y0_0 2) := (hq42).resolve_left (iv_ne b59 (iv_k (by decide) (by decide) : iv (-1) (-1) (-1)) (by decide))
            refine lv_iload_n hx hb dX11_stepOn_69 rfl (lv_at hl 0 rfl) ?_
            have hPc := hP.sub (ws' := []) [] rfl
            have hDc := hD.sub (ws' := []) [] (by decide) rfl
            have hFc := va_free (wc := []) hD hS hA [] rfl
            refine va_calli (va_runS (As := [.int (byA q_tape (y0_0 3) (y0_0 2))]) (rest := []) ⟨hx, hb, hml, hown, hts⟩ (s11_isLetter l dC dI kB kI kJ kZ kC kS H.size (byA q_tape (y0_0 3) (y0_0 2))) (va_cwS 1 hts gX11_stepOn_X11_isLetter rfl rfl rfl (by decide +kernel) ⟨Nat.le_of_ble_eq_true rfl, Nat.le_of_ble_eq_true rfl⟩) ⟨fun a U g mk q => by obtain ⟨q0, q1, qP, qE, qD⟩ := q; exact ⟨q0, q1, qP, kE_call qE, qD⟩, fun U hU hW => ⟨rfl, by rw [hU], by rw [hU]; exact hPc, kE_warm hW hE, hDc.weaken (fun _ _ _ _ => trivial)⟩⟩ rfl rfl hl.1 rfl (lv_room (Nat.le_of_ble_eq_true rfl)) dX11_stepOn_70 ⟨Nat.le_of_ble_eq_true rfl, Nat.le_of_ble_eq_true rfl⟩) hS (fun q _ h => hFc q h) hFc (fun r61 u t H1 locs ht hvm w62 hB hz1 hk1 hS => ?_)
            obtain ⟨hP1, hD1⟩ := hB
            rw [ht] at hP1
            try dsimp only at w62
            obtain ⟨hP, hD⟩ := va_join (wr := [(m0, .inr (11, oX11 ra (upd y0_0 6 (y0_0 2)))), (ra 13, .inl (kI, 700, .inl q_tape))]) (w1 := []) hP hD [] [0, 1] rfl rfl (by decide) (by decide) hk1 hFc hP1 hD1
            generalize H1 = H at hP hS ⊢
            have hP : va_P (dC, dI) vwCl [(m0, .inr (11, oX11 ra (upd y0_0 6 (y0_0 2)))), (ra 13, .inl (kI, 700, .inl q_tape))] H := hP
            have hD : va_D A [(m0, .inr (11, oX11 ra (upd y0_0 6 (y0_0 2)))), (ra 13, .inl (kI, 700, .inl q_tape))] := hD
            refine W.widen (k := 0) (n := 0) (Nat.le_of_ble_eq_true rfl) (Nat.le_of_ble_eq_true rfl) ?_
            obtain ⟨w62, b63⟩ := w62
            subst w62
            refine lv_if_eq (tgt := 111) hx hb dX11_stepOn_73 (by decide) (fun c64 => ?_) (fun c64 => ?_)
            · have b65 : iv 0 0 (isLt (byA q_tape (y0_0 3) (y0_0 2))) := iv_eqL c64 (iv_k (by decide) (by decide) : iv 0 0 0)
              refine lv_iload_n hx hb dX11_stepOn_111 rfl (lv_at hl 0 rfl) ?_
              have hPc := hP.sub (ws' := []) [] rfl
              have hDc := hD.sub (ws' := []) [] (by decide) rfl
              have hFc := va_free (wc := []) hD hS hA [] rfl
              refine va_calli (va_runS (As := [.int (byA q_tape (y0_0 3) (y0_0 2))]) (rest := []) ⟨hx, hb, hml, hown, hts⟩ (s11_isDigit l dC dI kB kI kJ kZ kC kS H.size (byA q_tape (y0_0 3) (y0_0 2))) (va_cwS 1 hts gX11_stepOn_X11_isDigit rfl rfl rfl (by decide +kernel) ⟨Nat.le_of_ble_eq_true rfl, Nat.le_of_ble_eq_true rfl⟩) ⟨fun a U g mk q => by obtain ⟨q0, q1, qP, qE, qD⟩ := q; exact ⟨q0, q1, qP, kE_call qE, qD⟩, fun U hU hW => ⟨rfl, by rw [hU], by rw [hU]; exact hPc, kE_warm hW hE, hDc.weaken (fun _ _ _ _ => trivial)⟩⟩ rfl rfl hl.1 rfl (lv_room (Nat.le_of_ble_eq_true rfl)) dX11_stepOn_112 ⟨Nat.le_of_ble_eq_true rfl, Nat.le_of_ble_eq_true rfl⟩) hS (fun q _ h => hFc q h) hFc (fun r66 u t H1 locs ht hvm w67 hB hz1 hk1 hS => ?_)
              obtain ⟨hP1, hD1⟩ := hB
              rw [ht] at hP1
              try dsimp only at w67
              obtain ⟨hP, hD⟩ := va_join (wr := [(m0, .inr (11, oX11 ra (upd y0_0 6 (y0_0 2)))), (ra 13, .inl (kI, 700, .inl q_tape))]) (w1 := []) hP hD [] [0, 1] rfl rfl (by decide) (by decide) hk1 hFc hP1 hD1
              generalize H1 = H at hP hS ⊢
              have hP : va_P (dC, dI) vwCl [(m0, .inr (11, oX11 ra (upd y0_0 6 (y0_0 2)))), (ra 13, .inl (kI, 700, .inl q_tape))] H := hP
              have hD : va_D A [(m0, .inr (11, oX11 ra (upd y0_0 6 (y0_0 2)))), (ra 13, .inl (kI, 700, .inl q_tape))] := hD
              refine W.widen (k := 0) (n := 0) (Nat.le_of_ble_eq_true rfl) (Nat.le_of_ble_eq_true rfl) ?_
              obtain ⟨w67, b68⟩ := w67
              subst w67
              refine lv_if_eq (tgt := 186) hx hb dX11_stepOn_115 (by decide) (fun c69 => ?_) (fun c69 => ?_)
              · have b70 : iv 0 0 (isDg (byA q_tape (y0_0 3) (y0_0 2))) := iv_eqL c69 (iv_k (by decide) (by decide) : iv 0 0 0)
                refine lv_aload_n hx hb dX11_stepOn_186 rfl (lv_at hl 1 rfl) ?_
                refine lv_dup hx hb dX11_stepOn_187 rfl ?_
                refine va_get (D := (dC, dI)) (ci := 11) (v := .int (y0_0 2)) (C := RX11) (T := TX11) (N := 61) hx hb hts hin11 hown hK hP 0 rfl rfl 16 (by decide) hw_0 (fun _ h9 => h9) rfl dX11_stepOn_188 ?_
                refine lv_iconst (v := 1) hx hb dX11_stepOn_191 (by decide) ?_
                refine lv_iadd hx hb dX11_stepOn_192 ?_
                have b71 : iv 1 700 ((y0_0 2) + 1) := iv_add b60 (iv_k (by decide) (by decide) : iv 1 1 1) (by decide) (by decide) (by decide) (by decide)
                have t72 : ((y0_0 2) + 1).toInt = (y0_0 2).toInt + 1 := iv_addc b60 (by decide) (by decide) (by decide)
                refine va_put (D := (dC, dI)) (ci := 11) (v := .int ((y0_0 2) + 1)) (ty := .int) (C := RX11) (T := TX11) (N := 61) hx hb hts hin11 tyX11 tyX11_ok nmX11 hown hK hP hD hS 0 rfl rfl 16 (by decide) hw_0 (fun _ h9 => h9) rfl (by decide +kernel) rfl rfl (Nat.le_of_ble_eq_true rfl) dX11_stepOn_193 (fun H locs hP hD hS => ?_)
                have hP : va_P (dC, dI) vwCl [(m0, .inr (11, oX11 ra (upd (upd y0_0 6 (y0_0 2)) 2 ((y0_0 2) + 1)))), (ra 13, .inl (kI, 700, .inl q_tape))] H := hP
                have hD : va_D A [(m0, .inr (11, oX11 ra (upd (upd y0_0 6 (y0_0 2)) 2 ((y0_0 2) + 1)))), (ra 13, .inl (kI, 700, .inl q_tape))] := hD
                refine lv_aload_n hx hb dX11_stepOn_196 rfl (lv_at hl 1 rfl) ?_
                refine lv_iload_n hx hb dX11_stepOn_197 rfl (lv_at hl 0 rfl) ?_
                refine lv_bipush (v := 59) hx hb dX11_stepOn_198 (by decide) ?_
                refine lv_icmp_ne (tgt := 207) hx hb dX11_stepOn_200 (by decide) (fun c73 => ?_) (fun c73 => ?_)
                · refine lv_iconst (v := 4) hx hb dX11_stepOn_207 (by decide) ?_
                  refine va_put (D := (dC, dI)) (ci := 11) (v := .int 4) (ty := .int) (C := RX11) (T := TX11) (N := 61) hx hb hts hin11 tyX11 tyX11_ok nmX11 hown hK hP hD hS 0 rfl rfl 18 (by decide) hw_1 (fun _ h9 => h9) rfl (by decide +kernel) rfl rfl (Nat.le_of_ble_eq_true rfl) dX11_stepOn_208 (fun H locs hP hD hS => ?_)
                  have hP : va_P (dC, dI) vwCl [(m0, .inr (11, oX11 ra (upd (upd (upd y0_0 6 (y0_0 2)) 2 ((y0_0 2) + 1)) 4 4))), (ra 13, .inl (kI, 700, .inl q_tape))] H := hP
                  have hD : va_D A [(m0, .inr (11, oX11 ra (upd (upd (upd y0_0 6 (y0_0 2)) 2 ((y0_0 2) + 1)) 4 4))), (ra 13, .inl (kI, 700, .inl q_tape))] := hD
                  refine lv_aload_n hx hb dX11_stepOn_211 rfl (lv_at hl 1 rfl) ?_
                  refine lv_aload_n hx hb dX11_stepOn_212 rfl (lv_at hl 1 rfl) ?_
                  refine va_get (D := (dC, dI)) (ci := 11) (v := .int ((y0_0 2) + 1)) (C := RX11) (T := TX11) (N := 61) hx hb hts hin11 hown hK hP 0 rfl rfl 16 (by decide) hw_0 (fun _ h9 => h9) rfl dX11_stepOn_213 ?_
                  refine va_put (D := (dC, dI)) (ci := 11) (v := .int ((y0_0 2) + 1)) (ty := .int) (C := RX11) (T := TX11) (N := 61) hx hb hts hin11 tyX11 tyX11_ok nmX11 hown hK hP hD hS 0 rfl rfl 21 (by decide) hw_2 (fun _ h9 => h9) rfl (by decide +kernel) rfl rfl (Nat.le_of_ble_eq_true rfl) dX11_stepOn_216 (fun H locs hP hD hS => ?_)
                  have hP : va_P (dC, dI) vwCl [(m0, .inr (11, oX11 ra (upd (upd (upd (upd y0_0 6 (y0_0 2)) 2 ((y0_0 2) + 1)) 4 4) 7 ((y0_0 2) + 1)))), (ra 13, .inl (kI, 700, .inl q_tape))] H := hP
                  have hD : va_D A [(m0, .inr (11, oX11 ra (upd (upd (upd (upd y0_0 6 (y0_0 2)) 2 ((y0_0 2) + 1)) 4 4) 7 ((y0_0 2) + 1)))), (ra 13, .inl (kI, 700, .inl q_tape))] := hD
                  have hP9 := hP.sub (ws' := [(m0, .inr (11, oX11 ra (upd (upd (upd (upd y0_0 6 (y0_0 2)) 2 ((y0_0 2) + 1)) 4 4) 7 ((y0_0 2) + 1)))), (ra 13, .inl (kI, 700, .inl q_tape))]) [0, 1] rfl
                  have hD9 := hD.sub (ws' := [(m0, .inr (11, oX11 ra (upd (upd (upd (upd y0_0 6 (y0_0 2)) 2 ((y0_0 2) + 1)) 4 4) 7 ((y0_0 2) + 1)))), (ra 13, .inl (kI, 700, .inl q_tape))]) [0, 1] (by decide) rfl
                  exact W.vret hx hb hr (fun t ht hW => ⟨⟨(), rfl, trivial, upd (upd (upd (upd y0_0 6 (y0_0 2)) 2 ((y0_0 2) + 1)) 4 4) 7 ((y0_0 2) + 1), (fI_u (fI_u (fI_u (fI_u hI0_0 (k := 6) ((iv_w b60 (by decide) (by decide)))) (k := 2) ((iv_w b71 (by decide) (by decide)))) (k := 4) ((iv_w (iv_k (by decide) (by decide) : iv 4 4 4) (by decide) (by decide)))) (k := 7) ((iv_w b71 (by decide) (by decide)))), (show (x0 2).toInt ≤ ((y0_0 2) + 1).toInt from by omega), (show y0_0 3 = x0 3 from hts_0), (show 4 = 0 ∨ (x0 2).toInt + 1 ≤ ((y0_0 2) + 1).toInt from Or.inr (by omega)), (show y0_0 1 = x0 1 from htp_0), by rw [ht]; exact hP9, hD9⟩, hS.F ht⟩) hS.2.2 dX11_stepOn_219
                · have b74 : iv 59 59 (byA q_tape (y0_0 3) (y0_0 2)) := iv_eqL c73 (iv_k (by decide) (by decide) : iv 59 59 59)
                  refine lv_iconst (v := 3) hx hb dX11_stepOn_203 (by decide) ?_
                  refine lv_goto (tgt := 208) hx hb dX11_stepOn_204 (by decide) ?_
                  refine va_put (D := (dC, dI)) (ci := 11) (v := .int 3) (ty := .int) (C := RX11) (T := TX11) (N := 61) hx hb hts hin11 tyX11 tyX11_ok nmX11 hown hK hP hD hS 0 rfl rfl 18 (by decide) hw_1 (fun _ h9 => h9) rfl (by decide +kernel) rfl rfl (Nat.le_of_ble_eq_true rfl) dX11_stepOn_208 (fun H locs hP hD hS => ?_)
                  have hP : va_P (dC, dI) vwCl [(m0, .inr (11, oX11 ra (upd (upd (upd y0_0 6 (y0_0 2)) 2 ((y0_0 2) + 1)) 4 3))), (ra 13, .inl (kI, 700, .inl q_tape))] H := hP
                  have hD : va_D A [(m0, .inr (11, oX11 ra (upd (upd (upd y0_0 6 (y0_0 2)) 2 ((y0_0 2) + 1)) 4 3))), (ra 13, .inl (kI, 700, .inl q_tape))] := hD
                  refine lv_aload_n hx hb dX11_stepOn_211 rfl (lv_at hl 1 rfl) ?_
                  refine lv_aload_n hx hb dX11_stepOn_212 rfl (lv_at hl 1 rfl) ?_
                  refine va_get (D := (dC, dI)) (ci := 11) (v := .int ((y0_0 2) + 1)) (C := RX11) (T := TX11) (N := 61) hx hb hts hin11 hown hK hP 0 rfl rfl 16 (by decide) hw_0 (fun _ h9 => h9) rfl dX11_stepOn_213 ?_
                  refine va_put (D := (dC, dI)) (ci := 11) (v := .int ((y0_0 2) + 1)) (ty := .int) (C := RX11) (T := TX11) (N := 61) hx hb hts hin11 tyX11 tyX11_ok nmX11 hown hK hP hD hS 0 rfl rfl 21 (by decide) hw_2 (fun _ h9 => h9) rfl (by decide +kernel) rfl rfl (Nat.le_of_ble_eq_true rfl) dX11_stepOn_216 (fun H locs hP hD hS => ?_)
                  have hP : va_P (dC, dI) vwCl [(m0, .inr (11, oX11 ra (upd (upd (upd (upd y0_0 6 (y0_0 2)) 2 ((y0_0 2) + 1)) 4 3) 7 ((y0_0 2) + 1)))), (ra 13, .inl (kI, 700, .inl q_tape))] H := hP
                  have hD : va_D A [(m0, .inr (11, oX11 ra (upd (upd (upd (upd y0_0 6 (y0_0 2)) 2 ((y0_0 2) + 1)) 4 3) 7 ((y0_0 2) + 1)))), (ra 13, .inl (kI, 700, .inl q_tape))] := hD
                  have hP9 := hP.sub (ws' := [(m0, .inr (11, oX11 ra (upd (upd (upd (upd y0_0 6 (y0_0 2)) 2 ((y0_0 2) + 1)) 4 3) 7 ((y0_0 2) + 1)))), (ra 13, .inl (kI, 700, .inl q_tape))]) [0, 1] rfl
                  have hD9 := hD.sub (ws' := [(m0, .inr (11, oX11 ra (upd (upd (upd (upd y0_0 6 (y0_0 2)) 2 ((y0_0 2) + 1)) 4 3) 7 ((y0_0 2) + 1)))), (ra 13, .inl (kI, 700, .inl q_tape))]) [0, 1] (by decide) rfl
                  exact W.vret hx hb hr (fun t ht hW => ⟨⟨(), rfl, trivial, upd (upd (upd (upd y0_0 6 (y0_0 2)) 2 ((y0_0 2) + 1)) 4 3) 7 ((y0_0 2) + 1), (fI_u (fI_u (fI_u (fI_u hI0_0 (k := 6) ((iv_w b60 (by decide) (by decide)))) (k := 2) ((iv_w b71 (by decide) (by decide)))) (k := 4) ((iv_w (iv_k (by decide) (by decide) : iv 3 3 3) (by decide) (by decide)))) (k := 7) ((iv_w b71 (by decide) (by decide)))), (show (x0 2).toInt ≤ ((y0_0 2) + 1).toInt from by omega), (show y0_0 3 = x0 3 from hts_0), (show 3 = 0 ∨ (x0 2).toInt + 1 ≤ ((y0_0 2) + 1).toInt from Or.inr (by omega)), (show y0_0 1 = x0 1 from htp_0), by rw [ht]; exact hP9, hD9⟩, hS.F ht⟩) hS.2.2 dX11_stepOn_219
              · have b75 : iv 1 1 (isDg (byA q_tape (y0_0 3) (y0_0 2))) := iv_neLo c69 b68 (iv_k (by decide) (by decide) : iv 0 0 0) (by decide) (by decide)
                have b76 : iv 48 57 (byA q_tape (y0_0 3) (y0_0 2)) := isDg_iv (iv_ne b75 (iv_k (by decide) (by decide) : iv 0 0 0) (by decide))
                refine lv_aload_n hx hb dX11_stepOn_118 rfl (lv_at hl 1 rfl) ?_
                refine lv_iconst (v := 0) hx hb dX11_stepOn_119 (by decide) ?_
                refine va_put (D := (dC, dI)) (ci := 11) (v := .int 0) (ty := .int) (C := RX11) (T := TX11) (N := 61) hx hb hts hin11 tyX11 tyX11_ok nmX11 hown hK hP hD hS 0 rfl rfl 19 (by decide) hw_4 (fun _ h9 => h9) rfl (by decide +kernel) rfl rfl (Nat.le_of_ble_eq_true rfl) dX11_stepOn_120 (fun H locs hP hD hS => ?_)
                have hP : va_P (dC, dI) vwCl [(m0, .inr (11, oX11 ra (upd (upd y0_0 6 (y0_0 2)) 5 0))), (ra 13, .inl (kI, 700, .inl q_tape))] H := hP
                have hD : va_D A [(m0, .inr (11, oX11 ra (upd (upd y0_0 6 (y0_0 2)) 5 0))), (ra 13, .inl (kI, 700, .inl q_tape))] := hD
                exact hJ123 _ (upd (upd y0_0 6 (y0_0 2)) 5 0) (byA q_tape (y0_0 3) (y0_0 2)) _ _ _ (Nat.lt_succ_self _) ((fI_u (fI_u hI0_0 (k := 6) ((iv_w b60 (by decide) (by decide)))) (k := 5) ((iv_w (iv_k (by decide) (by decide) : iv 0 0 0) (by decide) (by decide))))) (b76) (b60) ((show (x0 2).toInt + 1 ≤ (y0_0 2).toInt ∨ ¬ isDg (byA q_tape (x0 3) (y0_0 2)) = 0 from Or.inr (by have q := c69; rw [hts_0] at q; exact q))) ((show (x0 2).toInt ≤ (y0_0 2).toInt from by omega)) ((show y0_0 3 = x0 3 from hts_0)) ((show y0_0 1 = x0 1 from htp_0)) (hP.sub [0, 1] rfl) (hD.sub [0, 1] (by decide) rfl) hS (lv_sub hl [1, 0] rfl)
            · have b77 : iv 1 1 (isLt (byA q_tape (y0_0 3) (y0_0 2))) := iv_neLo c64 b63 (iv_k (by decide) (by decide) : iv 0 0 0) (by decide) (by decide)
              have b78 : iv 97 122 (byA q_tape (y0_0 3) (y0_0 2)) := isLt_iv (iv_ne b77 (iv_k (by decide) (by decide) : iv 0 0 0) (by decide))
              exact hJ76 _ (upd y0_0 6 (y0_0 2)) (byA q_tape (y0_0 3) (y0_0 2)) _ _ _ (Nat.lt_succ_self _) ((fI_u hI0_0 (k := 6) ((iv_w b60 (by decide) (by decide))))) (b78) (b60) ((show (x0 2).toInt + 1 ≤ (y0_0 2).toInt ∨ ¬ isLt (byA q_tape (x0 3) (y0_0 2)) = 0 from Or.inr (by have q := c64; rw [hts_0] at q; exact q))) ((show (x0 2).toInt ≤ (y0_0 2).toInt from by omega)) ((show y0_0 3 = x0 3 from hts_0)) ((show y0_0 1 = x0 1 from htp_0)) (hP.sub [0, 1] rfl) (hD.sub [0, 1] (by decide) rfl) hS (lv_sub hl [1, 0] rfl)
          · have b79 : iv (-1) (-1) (byA q_tape (y0_0 3) (y0_0 2)) := iv_eqL c58 (iv_k (by decide) (by decide) : iv (-1) (-1) (-1))
            refine lv_aload_n hx hb dX11_stepOn_61 rfl (lv_at hl 1 rfl) ?_
            refine lv_iconst (v := 0) hx hb dX11_stepOn_62 (by decide) ?_
            refine va_put (D := (dC, dI)) (ci := 11) (v := .int 0) (ty := .int) (C := RX11) (T := TX11) (N := 61) hx hb hts hin11 tyX11 tyX11_ok nmX11 hown hK hP hD hS 0 rfl rfl 18 (by decide) hw_1 (fun _ h9 => h9) rfl (by decide +kernel) rfl rfl (Nat.le_of_ble_eq_true rfl) dX11_stepOn_63 (fun H locs hP hD hS => ?_)
            have hP : va_P (dC, dI) vwCl [(m0, .inr (11, oX11 ra (upd (upd y0_0 6 (y0_0 2)) 4 0))), (ra 13, .inl (kI, 700, .inl q_tape))] H := hP
            have hD : va_D A [(m0, .inr (11, oX11 ra (upd (upd y0_0 6 (y0_0 2)) 4 0))), (ra 13, .inl (kI, 700, .inl q_tape))] := hD
            refine lv_goto (tgt := 211) hx hb dX11_stepOn_66 (by decide) ?_
            refine lv_aload_n hx hb dX11_stepOn_211 rfl (lv_at hl 1 rfl) ?_
            refine lv_aload_n hx hb dX11_stepOn_212 rfl (lv_at hl 1 rfl) ?_
            refine va_get (D := (dC, dI)) (ci := 11) (v := .int (y0_0 2)) (C := RX11) (T := TX11) (N := 61) hx hb hts hin11 hown hK hP 0 rfl rfl 16 (by decide) hw_0 (fun _ h9 => h9) rfl dX11_stepOn_213 ?_
            refine va_put (D := (dC, dI)) (ci := 11) (v := .int (y0_0 2)) (ty := .int) (C := RX11) (T := TX11) (N := 61) hx hb hts hin11 tyX11 tyX11_ok nmX11 hown hK hP hD hS 0 rfl rfl 21 (by decide) hw_2 (fun _ h9 => h9) rfl (by decide +kernel) rfl rfl (Nat.le_of_ble_eq_true rfl) dX11_stepOn_216 (fun H locs hP hD hS => ?_)
            have hP : va_P (dC, dI) vwCl [(m0, .inr (11, oX11 ra (upd (upd (upd y0_0 6 (y0_0 2)) 4 0) 7 (y0_0 2)))), (ra 13, .inl (kI, 700, .inl q_tape))] H := hP
            have hD : va_D A [(m0, .inr (11, oX11 ra (upd (upd (upd y0_0 6 (y0_0 2)) 4 0) 7 (y0_0 2)))), (ra 13, .inl (kI, 700, .inl q_tape))] := hD
            have hP9 := hP.sub (ws' := [(m0, .inr (11, oX11 ra (upd (upd (upd y0_0 6 (y0_0 2)) 4 0) 7 (y0_0 2)))), (ra 13, .inl (kI, 700, .inl q_tape))]) [0, 1] rfl
            have hD9 := hD.sub (ws' := [(m0, .inr (11, oX11 ra (upd (upd (upd y0_0 6 (y0_0 2)) 4 0) 7 (y0_0 2)))), (ra 13, .inl (kI, 700, .inl q_tape))]) [0, 1] (by decide) rfl
            exact W.vret hx hb hr (fun t ht hW => ⟨⟨(), rfl, trivial, upd (upd (upd y0_0 6 (y0_0 2)) 4 0) 7 (y0_0 2), (fI_u (fI_u (fI_u hI0_0 (k := 6) ((hI0_0 2 : iv 0 700 (y0_0 2)))) (k := 4) ((iv_w (iv_k (by decide) (by decide) : iv 0 0 0) (by decide) (by decide)))) (k := 7) ((hI0_0 2 : iv 0 700 (y0_0 2)))), (show (x0 2).toInt ≤ (y0_0 2).toInt from by omega), (show y0_0 3 = x0 3 from hts_0), (show 0 = 0 ∨ (x0 2).toInt + 1 ≤ (y0_0 2).toInt from Or.inl rfl), (show y0_0 1 = x0 1 from htp_0), by rw [ht]; exact hP9, hD9⟩, hS.F ht⟩) hS.2.2 dX11_stepOn_219
        · have b80 : iv 10 10 (byA q_tape (y0_0 3) (y0_0 2)) := iv_eqL c53 (iv_k (by decide) (by decide) : iv 10 10 10)
          have b81 : iv 0 699 (y0_0 2) := (hq42).resolve_left (iv_ne b80 (iv_k (by decide) (by decide) : iv (-1) (-1) (-1)) (by decide))
          refine lv_aload_n hx hb dX11_stepOn_26 rfl (lv_at hl 0 rfl) ?_
          refine lv_dup hx hb dX11_stepOn_27 rfl ?_
          refine va_get (D := (dC, dI)) (ci := 11) (v := .int (y0_0 2)) (C := RX11) (T := TX11) (N := 61) hx hb hts hin11 hown hK hP 0 rfl rfl 16 (by decide) hw_0 (fun _ h9 => h9) rfl dX11_stepOn_28 ?_
          refine lv_iconst (v := 1) hx hb dX11_stepOn_31 (by decide) ?_
          refine lv_iadd hx hb dX11_stepOn_32 ?_
          have b82 : iv 1 700 ((y0_0 2) + 1) := iv_add b81 (iv_k (by decide) (by decide) : iv 1 1 1) (by decide) (by decide) (by decide) (by decide)
          have t83 : ((y0_0 2) + 1).toInt = (y0_0 2).toInt + 1 := iv_addc b81 (by decide) (by decide) (by decide)
          refine va_put (D := (dC, dI)) (ci := 11) (v := .int ((y0_0 2) + 1)) (ty := .int) (C := RX11) (T := TX11) (N := 61) hx hb hts hin11 tyX11 tyX11_ok nmX11 hown hK hP hD hS 0 rfl rfl 16 (by decide) hw_0 (fun _ h9 => h9) rfl (by decide +kernel) rfl rfl (Nat.le_of_ble_eq_true rfl) dX11_stepOn_33 (fun H locs hP hD hS => ?_)
          have hP : va_P (dC, dI) vwCl [(m0, .inr (11, oX11 ra (upd y0_0 2 ((y0_0 2) + 1)))), (ra 13, .inl (kI, 700, .inl q_tape))] H := hP
          have hD : va_D A [(m0, .inr (11, oX11 ra (upd y0_0 2 ((y0_0 2) + 1)))), (ra 13, .inl (kI, 700, .inl q_tape))] := hD
          refine lv_goto (tgt := 0) hx hb dX11_stepOn_36 (by decide) ?_
          exact ih0 (upd y0_0 2 ((y0_0 2) + 1)) _ _ _ (ms_up (c := 1) (d := 0) b81 hm0 (by decide) (iv_addc b81 (by decide) (by decide) (by decide)) (by decide) rfl) ((fI_u hI0_0 (k := 2) ((iv_w b82 (by decide) (by decide))))) ((show (x0 2).toInt ≤ ((y0_0 2) + 1).toInt from by omega)) ((show y0_0 3 = x0 3 from hts_0)) ((show y0_0 1 = x0 1 from htp_0)) (hP.sub [0, 1] rfl) (hD.sub [0, 1] (by decide) rfl) hS (lv_sub hl [0] rfl)
  exact hJ0 _ x0 _ _ _ (Nat.lt_succ_self _) (hX) ((show (x0 2).toInt ≤ (x0 2).toInt from by omega)) ((show x0 3 = x0 3 from rfl)) ((show x0 1 = x0 1 from rfl)) (hP.sub [0, 1] rfl) (hD.sub [0, 1] (by decide) rfl) hS (lv_sub hl [0] rfl)
def rm_s11_is : Room := { frames := 4, cells := 0, slots := 0, locals := 85 }
set_option maxHeartbeats 4000000 in
set_option maxRecDepth 100000 in
theorem s11_is (l : Launch) (dC : Nat → ClassId) (dI : Nat → Nat → Nat) (kB kI kJ kZ kC kS : ClassId) (sz : Nat) (adK : Nat → Nat) (adV : Nat → Nat) (m0 : Nat) (ra : Nat → Nat) (x0 : Nat → Int32) (q_tape : Nat → Int32) (i : Nat) (hX : fI lX11 hX11 x0) (hq_tape : fI (fun _ => 0) (fun _ => 255) q_tape) (hi : i < 10) : Met l yX11_is wsX11_is rm_s11_is (va_Pc [.ref m0, .ref (adK i)] (fun U => U.heap.size = sz ∧ va_P (dC, dI) vwCl [(m0, .inr (11, oX11 ra x0)), (ra 13, .inl (kI, 700, .inl q_tape))] U.heap ∧ kE dC dI kB kI kJ kZ kC kS U ∧ va_D (fun _ => True) [(m0, .inr (11, oX11 ra x0)), (ra 13, .inl (kI, 700, .inl q_tape))] ∧ kL adK adV (va_A [(m0, .inr (11, oX11 ra x0)), (ra 13, .inl (kI, 700, .inl q_tape))] sz) U)) (va_Qi (fun (r : Int32) (_ : Unit) => iv 0 1 r) (fun _ t => va_P (dC, dI) vwCl [(m0, .inr (11, oX11 ra x0)), (ra 13, .inl (kI, 700, .inl q_tape))] t.heap ∧ va_D (va_A [(m0, .inr (11, oX11 ra x0)), (ra 13, .inl (kI, 700, .inl q_tape))] sz) [(m0, .inr (11, oX11 ra x0)), (ra 13, .inl (kI, 700, .inl q_tape))]) (va_A [(m0, .inr (11, oX11 ra x0)), (ra 13, .inl (kI, 700, .inl q_tape))] sz)) 0 0 (va_A [(m0, .inr (11, oX11 ra x0)), (ra 13, .inl (kI, 700, .inl q_tape))] sz) := by
  refine Met.ofW (cc := cX11_is) (maxL := 4) (ret := (some .boolean)) (by decide) rfl ?_
  intro p e s m args0 below meth c s₁ B hml hv
  obtain ⟨hargs, hsz, hP, hE, hD0, hKL⟩ := hv
  have hx := B.exec
  have hb := B.bytes
  have hr := B.returns
  have hts := atoms_spec (ws := wsX11_is) B.pre
  have hown : s.vm.findClass RX11 = some m.cls := findClass_of_methodNamed B.named
  have hlocks := B.notSynchronized
  have hK := hE.1
  have hin11 : ∀ w ∈ wsX110, w ∈ wsX11_is := fun _ h9 => List.mem_cons_of_mem _ (List.mem_append_right _ h9)
  have hw_0 := hts (.fieldLink RX11 66 "PathProberModel" "tape" "[I") (List.mem_of_getElem? (i := 5) (by decide +kernel))
  have hw_1 := hts (.fieldLink RX11 158 "PathProberModel" "begins" "I") (List.mem_of_getElem? (i := 4) (by decide +kernel))
  have hw_2 := hts (.fieldLink RX11 184 "PathProberModel" "bad" "I") (List.mem_of_getElem? (i := 1) (by decide +kernel))
  have hw_3 := hts (.fieldLink RX11 161 "PathProberModel" "token" "I") (List.mem_of_getElem? (i := 2) (by decide +kernel))
  have hw_4 := hts (.fieldLink RX11 181 "PathProberModel" "stops" "I") (List.mem_of_getElem? (i := 3) (by decide +kernel))
  subst hsz
  have hD := hD0.self (sz := s.heap.size)
  generalize hAe : va_A [(m0, .inr (11, oX11 ra x0)), (ra 13, .inl (kI, 700, .inl q_tape))] s.heap.size = A at hD hKL ⊢
  have hA : ∀ q : Nat, s.heap.size ≤ q → A q := fun q h => by rw [← hAe]; exact Or.inr h
  have hS : va_S A s.heap s.heap [] := va_S.rf
  have hP : va_P (dC, dI) vwCl [(m0, .inr (11, oX11 ra x0)), (ra 13, .inl (kI, 700, .inl q_tape))] s.heap := hP
  have hl := lv_entry ([.ref m0, .ref (adK i)]) (n := 4) (Nat.le_of_ble_eq_true rfl)
  have hla : entryFrame m args0 4 = entryFrame m ([.ref m0, .ref (adK i)] : List Value).toArray 4 := by rw [hargs]
  rw [hla, lg_entry_eq]
  generalize (lg_sl ([.ref m0, .ref (adK i)]) ++ List.replicate (4 - (lg_sl ([.ref m0, .ref (adK i)])).length) Slot.unset).toArray = ls at hl ⊢
  have hl : lv_has ls 4 [(0, .ref m0), (1, .ref (adK i))] := hl
  have hJ39 : ∀ (n : Nat) (v39_loc2 : Int32) (v39_loc3 : Int32) (H : Heap) (locs : List Loc) (ls : Array Slot), (699 - v39_loc3.toInt).toNat < n → iv 0 1 v39_loc2 → iv 0 699 v39_loc3 → (v39_loc2 = 0 ∨ nI (lenL.getD i 0) = x0 7 - x0 6) → (x0 1 = x0 1) → va_P (dC, dI) vwCl [(m0, .inr (11, oX11 ra x0)), (ra 13, .inl (kI, 700, .inl q_tape))] H → va_D A [(m0, .inr (11, oX11 ra x0)), (ra 13, .inl (kI, 700, .inl q_tape))] → va_S A s.heap H locs → lv_has ls 4 [(0, .ref m0), (1, .ref (adK i)), (2, .int v39_loc2), (3, .int v39_loc3)] → W p l e (headSpec wsX11_is rm_s11_is).room s m args0 below meth c H locs (0) (0) (MQ below (va_Qi (fun (r : Int32) (_ : Unit) => iv 0 1 r) (fun _ t => va_P (dC, dI) vwCl [(m0, .inr (11, oX11 ra x0)), (ra 13, .inl (kI, 700, .inl q_tape))] t.heap ∧ va_D A [(m0, .inr (11, oX11 ra x0)), (ra 13, .inl (kI, 700, .inl q_tape))]) A) args0 s 0 0 A) (F0 m 39 ls []) := by
    intro n
    induction n with
    | zero => intro v39_loc2 v39_loc3 H locs ls hm39; exact absurd hm39 (Nat.not_lt_zero _)
    | succ n ih39 =>
      intro v39_loc2 v39_loc3 H locs ls hm39 h39_1 h39_2 hie_39 htp_39 hP hD hS hl
      refine lv_iload_n hx hb dX11_is_39 rfl (lv_at hl 2 rfl) ?_
      refine lv_if_eq (tgt := 82) hx hb dX11_is_40 (by decide) (fun c1 => ?_) (fun c1 => ?_)
      · have b2 : iv 0 0 v39_loc2 := iv_eqL c1 (iv_k (by decide) (by decide) : iv 0 0 0)
        refine lv_iload_n hx hb dX11_is_82 rfl (lv_at hl 2 rfl) ?_
        have hP9 := hP.sub (ws' := [(m0, .inr (11, oX11 ra x0)), (ra 13, .inl (kI, 700, .inl q_tape))]) [0, 1] rfl
        have hD9 := hD.sub (ws' := [(m0, .inr (11, oX11 ra x0)), (ra 13, .inl (kI, 700, .inl q_tape))]) [0, 1] (by decide) rfl
        exact W.zret (v := v39_loc2) (ty := .boolean) hx hb hr (z_nar (iv_w b2 (by decide) (by decide))) (fun t ht hW => ⟨⟨v39_loc2, (), rfl, (iv_w b2 (by decide) (by decide)), by rw [ht]; exact hP9, hD9⟩, hS.F ht⟩) hS.2.2 dX11_is_83
      · have b3 : iv 1 1 v39_loc2 := iv_neLo c1 h39_1 (iv_k (by decide) (by decide) : iv 0 0 0) (by decide) (by decide)
        have hr4 : nI (lenL.getD i 0) = x0 7 - x0 6 := hie_39.resolve_left (iv_ne b3 (iv_k (by decide) (by decide) : iv 0 0 0) (by decide))
        refine lv_iload_n hx hb dX11_is_43 rfl (lv_at hl 3 rfl) ?_
        refine lv_aload_n hx hb dX11_is_44 rfl (lv_at hl 1 rfl) ?_
        have hPc := hP.sub (ws' := []) [] rfl
        have hDc := hD.sub (ws' := []) [] (by decide) rfl
        have hFc := va_free (wc := []) hD hS hA [] rfl
        refine va_calli (va_runV (As := []) (rest := [.int v39_loc3]) ⟨hx, hb, hml, hown, hts⟩ (sJ_length l dC dI kB kI kJ kZ kC kS H.size adK adV i (hi)) (cwV 0 hts gX11_is_J0_length_8abf5 rfl rfl rfl (by decide +kernel) ⟨Nat.le_of_ble_eq_true rfl, Nat.le_of_ble_eq_true rfl⟩) ⟨fun a U g mk q => by obtain ⟨q0, q1, qP, qE, qD, qL⟩ := q; exact ⟨q0, q1, qP, kE_call qE, qD, kL_call qL⟩, kS_recv hKL.1 hi hS, fun U hU hW => ⟨rfl, by rw [hU], by rw [hU]; exact hPc, kE_warm hW hE, hDc.weaken (fun _ _ _ _ => trivial), kL_at hKL hS hFc hW hU⟩⟩ rfl rfl hl.1 rfl (lv_room (Nat.le_of_ble_eq_true rfl)) dX11_is_45 ⟨Nat.le_of_ble_eq_true rfl, Nat.le_of_ble_eq_true rfl⟩) hS (fun q _ h => hFc q h) hFc (fun r5 u t H1 locs ht hvm w6 hB hz1 hk1 hS => ?_)
        obtain ⟨hP1, hD1⟩ := hB
        rw [ht] at hP1
        try dsimp only at w6
        obtain ⟨hP, hD⟩ := va_join (wr := [(m0, .inr (11, oX11 ra x0)), (ra 13, .inl (kI, 700, .inl q_tape))]) (w1 := []) hP hD [] [0, 1] rfl rfl (by decide) (by decide) hk1 hFc hP1 hD1
        generalize H1 = H at hP hS ⊢
        have hP : va_P (dC, dI) vwCl [(m0, .inr (11, oX11 ra x0)), (ra 13, .inl (kI, 700, .inl q_tape))] H := hP
        have hD : va_D A [(m0, .inr (11, oX11 ra x0)), (ra 13, .inl (kI, 700, .inl q_tape))] := hD
        refine W.widen (k := 0) (n := 0) (Nat.le_of_ble_eq_true rfl) (Nat.le_of_ble_eq_true rfl) ?_
        obtain ⟨w6, b7⟩ := w6
        subst w6
        refine lv_icmp_ge (tgt := 82) hx hb dX11_is_48 (by decide) (fun c8 => ?_) (fun c8 => ?_)
        · refine lv_iload_n hx hb dX11_is_82 rfl (lv_at hl 2 rfl) ?_
          have hP9 := hP.sub (ws' := [(m0, .inr (11, oX11 ra x0)), (ra 13, .inl (kI, 700, .inl q_tape))]) [0, 1] rfl
          have hD9 := hD.sub (ws' := [(m0, .inr (11, oX11 ra x0)), (ra 13, .inl (kI, 700, .inl q_tape))]) [0, 1] (by decide) rfl
          exact W.zret (v := v39_loc2) (ty := .boolean) hx hb hr (z_nar (iv_w b3 (by decide) (by decide))) (fun t ht hW => ⟨⟨v39_loc2, (), rfl, (iv_w b3 (by decide) (by decide)), by rw [ht]; exact hP9, hD9⟩, hS.F ht⟩) hS.2.2 dX11_is_83
        · have b9 : iv 0 698 v39_loc3 := iv_ltL (Int32.not_le.mp c8) h39_2 b7 (by decide) (by decide)
          have b10 : iv 1 699 (nI (lenL.getD i 0)) := iv_ltR (Int32.not_le.mp c8) h39_2 b7 (by decide) (by decide)
          refine lv_aload_n hx hb dX11_is_51 rfl (lv_at hl 1 rfl) ?_
          refine lv_iload_n hx hb dX11_is_52 rfl (lv_at hl 3 rfl) ?_
          have hPc := hP.sub (ws' := []) [] rfl
          have hDc := hD.sub (ws' := []) [] (by decide) rfl
          have hFc := va_free (wc := []) hD hS hA [] rfl
          refine va_calli (va_runV (As := [.int v39_loc3]) (rest := []) ⟨hx, hb, hml, hown, hts⟩ (sJ_charAt l dC dI kB kI kJ kZ kC kS H.size adK adV i v39_loc3 (hi) ((iv_w b9 (by decide) (by decide))) ((Int32.not_le.mp c8))) (cwV 1 hts gX11_is_J0_charAt_5068e rfl rfl rfl (by decide +kernel) ⟨Nat.le_of_ble_eq_true rfl, Nat.le_of_ble_eq_true rfl⟩) ⟨fun a U g mk q => by obtain ⟨q0, q1, qP, qE, qD, qL⟩ := q; exact ⟨q0, q1, qP, kE_call qE, qD, kL_call qL⟩, kS_recv hKL.1 hi hS, fun U hU hW => ⟨rfl, by rw [hU], by rw [hU]; exact hPc, kE_warm hW hE, hDc.weaken (fun _ _ _ _ => trivial), kL_at hKL hS hFc hW hU⟩⟩ rfl rfl hl.1 rfl (lv_room (Nat.le_of_ble_eq_true rfl)) dX11_is_53 ⟨Nat.le_of_ble_eq_true rfl, Nat.le_of_ble_eq_true rfl⟩) hS (fun q _ h => hFc q h) hFc (fun r11 u t H1 locs ht hvm w12 hB hz1 hk1 hS => ?_)
          obtain ⟨hP1, hD1⟩ := hB
          rw [ht] at hP1
          try dsimp only at w12
          obtain ⟨hP, hD⟩ := va_join (wr := [(m0, .inr (11, oX11 ra x0)), (ra 13, .inl (kI, 700, .inl q_tape))]) (w1 := []) hP hD [] [0, 1] rfl rfl (by decide) (by decide) hk1 hFc hP1 hD1
          generalize H1 = H at hP hS ⊢
          have hP : va_P (dC, dI) vwCl [(m0, .inr (11, oX11 ra x0)), (ra 13, .inl (kI, 700, .inl q_tape))] H := hP
          have hD : va_D A [(m0, .inr (11, oX11 ra x0)), (ra 13, .inl (kI, 700, .inl q_tape))] := hD
          refine W.widen (k := 0) (n := 0) (Nat.le_of_ble_eq_true rfl) (Nat.le_of_ble_eq_true rfl) ?_
          refine lv_aload_n hx hb dX11_is_56 rfl (lv_at hl 0 rfl) ?_
          refine va_get (D := (dC, dI)) (ci := 11) (v := .ref (ra 13)) (C := RX11) (T := TX11) (N := 61) hx hb hts hin11 hown hK hP 0 rfl rfl 14 (by decide) hw_0 (fun _ h9 => h9) rfl dX11_is_57 ?_
          refine lv_aload_n hx hb dX11_is_60 rfl (lv_at hl 0 rfl) ?_
          refine va_get (D := (dC, dI)) (ci := 11) (v := .int (x0 6)) (C := RX11) (T := TX11) (N := 61) hx hb hts hin11 hown hK hP 0 rfl rfl 20 (by decide) hw_1 (fun _ h9 => h9) rfl dX11_is_61 ?_
          refine lv_iload_n hx hb dX11_is_64 rfl (lv_at hl 3 rfl) ?_
          refine lv_iadd hx hb dX11_is_65 ?_
          have b13 : iv 0 699 ((x0 6) + v39_loc3) := is_ix (hX 6 : iv 0 700 (x0 6)) (hX 7 : iv 0 700 (x0 7)) (iv_w b9 (by decide) (by decide)) hr4 (Int32.not_le.mp c8)
          refine va_iald hx hb hK hP 1 1 rfl rfl (iv_in b13 (by decide) (by decide)) dX11_is_66 ?_
          refine iv_top (a := 0) (b := 255) (hq_tape _) (fun z14 b15 => ?_)
          refine lv_icmp_ne (tgt := 74) hx hb dX11_is_67 (by decide) (fun c16 => ?_) (fun c16 => ?_)
          · refine lv_iconst (v := 0) hx hb dX11_is_74 (by decide) ?_
            refine lv_istore_n (lv' := [(2, .int 0), (0, .ref m0), (1, .ref (adK i)), (3, .int v39_loc3)]) hx hb dX11_is_75 rfl hl (by decide) rfl (fun ls hl => ?_)
            refine lv_iinc (v := v39_loc3 + Int32.ofInt 1) (lv' := [(3, .int (v39_loc3 + Int32.ofInt 1)), (2, .int 0), (0, .ref m0), (1, .ref (adK i))]) hx hb dX11_is_76 hl (k := 3) rfl (rfl) (by decide) rfl (fun ls hl => ?_)
            have b17 : iv 1 699 (v39_loc3 + Int32.ofInt 1) := iv_add b9 (iv_k (by decide) (by decide) : iv 1 1 (Int32.ofInt 1)) (by decide) (by decide) (by decide) (by decide)
            refine lv_goto (tgt := 39) hx hb dX11_is_79 (by decide) ?_
            exact ih39 0 (v39_loc3 + Int32.ofInt 1) _ _ _ (ms_up (c := 1) (d := 0) b9 hm39 (by decide) (iv_inc 1 b9 (by decide) (by decide) (by decide) (by decide)) (by decide) rfl) ((iv_w (iv_k (by decide) (by decide) : iv 0 0 0) (by decide) (by decide))) ((iv_w b17 (by decide) (by decide))) ((show 0 = 0 ∨ nI (lenL.getD i 0) = x0 7 - x0 6 from hie_39.elim (fun w => absurd w c1) Or.inr)) ((show x0 1 = x0 1 from rfl)) (hP.sub [0, 1] rfl) (hD.sub [0, 1] (by decide) rfl) hS (lv_sub hl [2, 3, 1, 0] rfl)
          · have b18 : iv 0 255 r11 := iv_eqL c16 b15
            refine lv_iconst (v := 1) hx hb dX11_is_70 (by decide) ?_
            refine lv_goto (tgt := 75) hx hb dX11_is_71 (by decide) ?_
            refine lv_istore_n (lv' := [(2, .int 1), (0, .ref m0), (1, .ref (adK i)), (3, .int v39_loc3)]) hx hb dX11_is_75 rfl hl (by decide) rfl (fun ls hl => ?_)
            refine lv_iinc (v := v39_loc3 + Int32.ofInt 1) (lv' := [(3, .int (v39_loc3 + Int32.ofInt 1)), (2, .int 1), (0, .ref m0), (1, .ref (adK i))]) hx hb dX11_is_76 hl (k := 3) rfl (rfl) (by decide) rfl (fun ls hl => ?_)
            have b19 : iv 1 699 (v39_loc3 + Int32.ofInt 1) := iv_add b9 (iv_k (by decide) (by decide) : iv 1 1 (Int32.ofInt 1)) (by decide) (by decide) (by decide) (by decide)
            refine lv_goto (tgt := 39) hx hb dX11_is_79 (by decide) ?_
            exact ih39 1 (v39_loc3 + Int32.ofInt 1) _ _ _ (ms_up (c := 1) (d := 0) b9 hm39 (by decide) (iv_inc 1 b9 (by decide) (by decide) (by decide) (by decide)) (by decide) rfl) ((iv_w (iv_k (by decide) (by decide) : iv 1 1 1) (by decide) (by decide))) ((iv_w b19 (by decide) (by decide))) ((show 1 = 0 ∨ nI (lenL.getD i 0) = x0 7 - x0 6 from hie_39.elim (fun w => absurd w c1) Or.inr)) ((show x0 1 = x0 1 from rfl)) (hP.sub [0, 1] rfl) (hD.sub [0, 1] (by decide) rfl) hS (lv_sub hl [2, 3, 1, 0] rfl)
  refine lv_aload_n hx hb dX11_is_0 rfl (lv_at hl 0 rfl) ?_
  refine va_get (D := (dC, dI)) (ci := 11) (v := .int (x0 8)) (C := RX11) (T := TX11) (N := 61) hx hb hts hin11 hown hK hP 0 rfl rfl 22 (by decide) hw_2 (fun _ h9 => h9) rfl dX11_is_1 ?_
  refine lv_if_ne (tgt := 35) hx hb dX11_is_4 (by decide) (fun c20 => ?_) (fun c20 => ?_)
  · have b21 : iv 1 5 (x0 8) := iv_neLo c20 (hX 8 : iv 0 5 (x0 8)) (iv_k (by decide) (by decide) : iv 0 0 0) (by decide) (by decide)
    refine lv_iconst (v := 0) hx hb dX11_is_35 (by decide) ?_
    refine lv_istore_n (lv' := [(2, .int 0), (0, .ref m0), (1, .ref (adK i))]) hx hb dX11_is_36 rfl hl (by decide) rfl (fun ls hl => ?_)
    refine lv_iconst (v := 0) hx hb dX11_is_37 (by decide) ?_
    refine lv_istore_n (lv' := [(3, .int 0), (2, .int 0), (0, .ref m0), (1, .ref (adK i))]) hx hb dX11_is_38 rfl hl (by decide) rfl (fun ls hl => ?_)
    exact hJ39 _ 0 0 _ _ _ (Nat.lt_succ_self _) ((iv_w (iv_k (by decide) (by decide) : iv 0 0 0) (by decide) (by decide))) ((iv_w (iv_k (by decide) (by decide) : iv 0 0 0) (by decide) (by decide))) ((show 0 = 0 ∨ nI (lenL.getD i 0) = x0 7 - x0 6 from Or.inl rfl)) ((show x0 1 = x0 1 from rfl)) (hP.sub [0, 1] rfl) (hD.sub [0, 1] (by decide) rfl) hS (lv_sub hl [2, 3, 1, 0] rfl)
  · have b22 : iv 0 0 (x0 8) := iv_eqL c20 (iv_k (by decide) (by decide) : iv 0 0 0)
    refine lv_aload_n hx hb dX11_is_7 rfl (lv_at hl 0 rfl) ?_
    refine va_get (D := (dC, dI)) (ci := 11) (v := .int (x0 4)) (C := RX11) (T := TX11) (N := 61) hx hb hts hin11 hown hK hP 0 rfl rfl 18 (by decide) hw_3 (fun _ h9 => h9) rfl dX11_is_8 ?_
    refine lv_iconst (v := 1) hx hb dX11_is_11 (by decide) ?_
    refine lv_icmp_ne (tgt := 35) hx hb dX11_is_12 (by decide) (fun c23 => ?_) (fun c23 => ?_)
    · refine lv_iconst (v := 0) hx hb dX11_is_35 (by decide) ?_
      refine lv_istore_n (lv' := [(2, .int 0), (0, .ref m0), (1, .ref (adK i))]) hx hb dX11_is_36 rfl hl (by decide) rfl (fun ls hl => ?_)
      refine lv_iconst (v := 0) hx hb dX11_is_37 (by decide) ?_
      refine lv_istore_n (lv' := [(3, .int 0), (2, .int 0), (0, .ref m0), (1, .ref (adK i))]) hx hb dX11_is_38 rfl hl (by decide) rfl (fun ls hl => ?_)
      exact hJ39 _ 0 0 _ _ _ (Nat.lt_succ_self _) ((iv_w (iv_k (by decide) (by decide) : iv 0 0 0) (by decide) (by decide))) ((iv_w (iv_k (by decide) (by decide) : iv 0 0 0) (by decide) (by decide))) ((show 0 = 0 ∨ nI (lenL.getD i 0) = x0 7 - x0 6 from Or.inl rfl)) ((show x0 1 = x0 1 from rfl)) (hP.sub [0, 1] rfl) (hD.sub [0, 1] (by decide) rfl) hS (lv_sub hl [2, 3, 1, 0] rfl)
    · have b24 : iv 1 1 (x0 4) := iv_eqL c23 (iv_k (by decide) (by decide) : iv 1 1 1)
      refine lv_aload_n hx hb dX11_is_15 rfl (lv_at hl 1 rfl) ?_
      have hPc := hP.sub (ws' := []) [] rfl
      have hDc := hD.sub (ws' := []) [] (by decide) rfl
      have hFc := va_free (wc := []) hD hS hA [] rfl
      refine va_calli (va_runV (As := []) (rest := []) ⟨hx, hb, hml, hown, hts⟩ (sJ_length l dC dI kB kI kJ kZ kC kS s.heap.size adK adV i (hi)) (cwV 0 hts gX11_is_J0_length_8abf5 rfl rfl rfl (by decide +kernel) ⟨Nat.le_of_ble_eq_true rfl, Nat.le_of_ble_eq_true rfl⟩) ⟨fun a U g mk q => by obtain ⟨q0, q1, qP, qE, qD, qL⟩ := q; exact ⟨q0, q1, qP, kE_call qE, qD, kL_call qL⟩, kS_recv hKL.1 hi hS, fun U hU hW => ⟨rfl, by rw [hU], by rw [hU]; exact hPc, kE_warm hW hE, hDc.weaken (fun _ _ _ _ => trivial), kL_at hKL hS hFc hW hU⟩⟩ rfl rfl hl.1 rfl (lv_room (Nat.le_of_ble_eq_true rfl)) dX11_is_16 ⟨Nat.le_of_ble_eq_true rfl, Nat.le_of_ble_eq_true rfl⟩) hS (fun q _ h => hFc q h) hFc (fun r25 u t H1 locs ht hvm w26 hB hz1 hk1 hS => ?_)
      obtain ⟨hP1, hD1⟩ := hB
      rw [ht] at hP1
      try dsimp only at w26
      obtain ⟨hP, hD⟩ := va_join (wr := [(m0, .inr (11, oX11 ra x0)), (ra 13, .inl (kI, 700, .inl q_tape))]) (w1 := []) hP hD [] [0, 1] rfl rfl (by decide) (by decide) hk1 hFc hP1 hD1
      generalize H1 = H at hP hS ⊢
      have hP : va_P (dC, dI) vwCl [(m0, .inr (11, oX11 ra x0)), (ra 13, .inl (kI, 700, .inl q_tape))] H := hP
      have hD : va_D A [(m0, .inr (11, oX11 ra x0)), (ra 13, .inl (kI, 700, .inl q_tape))] := hD
      refine W.widen (k := 0) (n := 0) (Nat.le_of_ble_eq_true rfl) (Nat.le_of_ble_eq_true rfl) ?_
      obtain ⟨w26, b27⟩ := w26
      subst w26
      refine lv_aload_n hx hb dX11_is_19 rfl (lv_at hl 0 rfl) ?_
      refine va_get (D := (dC, dI)) (ci := 11) (v := .int (x0 7)) (C := RX11) (T := TX11) (N := 61) hx hb hts hin11 hown hK hP 0 rfl rfl 21 (by decide) hw_4 (fun _ h9 => h9) rfl dX11_is_20 ?_
      refine lv_aload_n hx hb dX11_is_23 rfl (lv_at hl 0 rfl) ?_
      refine va_get (D := (dC, dI)) (ci := 11) (v := .int (x0 6)) (C := RX11) (T := TX11) (N := 61) hx hb hts hin11 hown hK hP 0 rfl rfl 20 (by decide) hw_1 (fun _ h9 => h9) rfl dX11_is_24 ?_
      refine lv_isub hx hb dX11_is_27 ?_
      refine lv_icmp_ne (tgt := 35) hx hb dX11_is_28 (by decide) (fun c28 => ?_) (fun c28 => ?_)
      · refine lv_iconst (v := 0) hx hb dX11_is_35 (by decide) ?_
        refine lv_istore_n (lv' := [(2, .int 0), (0, .ref m0), (1, .ref (adK i))]) hx hb dX11_is_36 rfl hl (by decide) rfl (fun ls hl => ?_)
        refine lv_iconst (v := 0) hx hb dX11_is_37 (by decide) ?_
        refine lv_istore_n (lv' := [(3, .int 0), (2, .int 0), (0, .ref m0), (1, .ref (adK i))]) hx hb dX11_is_38 rfl hl (by decide) rfl (fun ls hl => ?_)
        exact hJ39 _ 0 0 _ _ _ (Nat.lt_succ_self _) ((iv_w (iv_k (by decide) (by decide) : iv 0 0 0) (by decide) (by decide))) ((iv_w (iv_k (by decide) (by decide) : iv 0 0 0) (by decide) (by decide))) ((show 0 = 0 ∨ nI (lenL.getD i 0) = x0 7 - x0 6 from Or.inl rfl)) ((show x0 1 = x0 1 from rfl)) (hP.sub [0, 1] rfl) (hD.sub [0, 1] (by decide) rfl) hS (lv_sub hl [2, 3, 1, 0] rfl)
      · have b29 : iv 0 699 ((x0 7) - (x0 6)) := iv_eqR c28 b27
        refine lv_iconst (v := 1) hx hb dX11_is_31 (by decide) ?_
        refine lv_goto (tgt := 36) hx hb dX11_is_32 (by decide) ?_
        refine lv_istore_n (lv' := [(2, .int 1), (0, .ref m0), (1, .ref (adK i))]) hx hb dX11_is_36 rfl hl (by decide) rfl (fun ls hl => ?_)
        refine lv_iconst (v := 0) hx hb dX11_is_37 (by decide) ?_
        refine lv_istore_n (lv' := [(3, .int 0), (2, .int 1), (0, .ref m0), (1, .ref (adK i))]) hx hb dX11_is_38 rfl hl (by decide) rfl (fun ls hl => ?_)
        exact hJ39 _ 1 0 _ _ _ (Nat.lt_succ_self _) ((iv_w (iv_k (by decide) (by decide) : iv 1 1 1) (by decide) (by decide))) ((iv_w (iv_k (by decide) (by decide) : iv 0 0 0) (by decide) (by decide))) ((show 1 = 0 ∨ nI (lenL.getD i 0) = x0 7 - x0 6 from Or.inr c28)) ((show x0 1 = x0 1 from rfl)) (hP.sub [0, 1] rfl) (hD.sub [0, 1] (by decide) rfl) hS (lv_sub hl [2, 3, 1, 0] rfl)
def rm_s11_which : Room := { frames := 5, cells := 0, slots := 0, locals := 108 }
set_option maxHeartbeats 4000000 in
set_option maxRecDepth 100000 in
theorem s11_which (l : Launch) (dC : Nat → ClassId) (dI : Nat → Nat → Nat) (kB kI kJ kZ kC kS : ClassId) (sz : Nat) (adK : Nat → Nat) (adV : Nat → Nat) (m0 : Nat) (ra : Nat → Nat) (x0 : Nat → Int32) (q_tape : Nat → Int32) (b0 : Nat) (fw : Nat → Option Nat) (j0 : Nat) (hX : fI lX11 hX11 x0) (hq_tape : fI (fun _ => 0) (fun _ => 255) q_tape) (hj : j0 ≤ 4) (hrow : ∀ k, k < 4 → fw k = some (adK (j0 + k))) : Met l yX11_which wsX11_which rm_s11_which (va_Pc [.ref m0, .ref b0] (fun U => U.heap.size = sz ∧ va_P (dC, dI) vwCl [(m0, .inr (11, oX11 ra x0)), (ra 13, .inl (kI, 700, .inl q_tape)), (b0, .inl (kS, 4, .inr (.inr (.inr (.inr fw)))))] U.heap ∧ kE dC dI kB kI kJ kZ kC kS U ∧ va_D (fun _ => True) [(m0, .inr (11, oX11 ra x0)), (ra 13, .inl (kI, 700, .inl q_tape)), (b0, .inl (kS, 4, .inr (.inr (.inr (.inr fw)))))] ∧ kL adK adV (va_A [(m0, .inr (11, oX11 ra x0)), (ra 13, .inl (kI, 700, .inl q_tape)), (b0, .inl (kS, 4, .inr (.inr (.inr (.inr fw)))))] sz) U)) (va_Qi (fun (r : Int32) (_ : Unit) => iv (-1) 3 r) (fun _ t => va_P (dC, dI) vwCl [(m0, .inr (11, oX11 ra x0)), (ra 13, .inl (kI, 700, .inl q_tape)), (b0, .inl (kS, 4, .inr (.inr (.inr (.inr fw)))))] t.heap ∧ va_D (va_A [(m0, .inr (11, oX11 ra x0)), (ra 13, .inl (kI, 700, .inl q_tape)), (b0, .inl (kS, 4, .inr (.inr (.inr (.inr fw)))))] sz) [(m0, .inr (11, oX11 ra x0)), (ra 13, .inl (kI, 700, .inl q_tape)), (b0, .inl (kS, 4, .inr (.inr (.inr (.inr fw)))))]) (va_A [(m0, .inr (11, oX11 ra x0)), (ra 13, .inl (kI, 700, .inl q_tape)), (b0, .inl (kS, 4, .inr (.inr (.inr (.inr fw)))))] sz)) 0 0 (va_A [(m0, .inr (11, oX11 ra x0)), (ra 13, .inl (kI, 700, .inl q_tape)), (b0, .inl (kS, 4, .inr (.inr (.inr (.inr fw)))))] sz) := by
  refine Met.ofW (cc := cX11_which) (maxL := 3) (ret := (some .int)) (by decide) rfl ?_
  intro p e s m args0 below meth c s₁ B hml hv
  obtain ⟨hargs, hsz, hP, hE, hD0, hKL⟩ := hv
  have hx := B.exec
  have hb := B.bytes
  have hr := B.returns
  have hts := atoms_spec (ws := wsX11_which) B.pre
  have hown : s.vm.findClass RX11 = some m.cls := findClass_of_methodNamed B.named
  have hlocks := B.notSynchronized
  have hK := hE.1
  have hin11 : ∀ w ∈ wsX110, w ∈ wsX11_which := fun _ h9 => List.mem_cons_of_mem _ (List.mem_append_right _ h9)
  subst hsz
  have hD := hD0.self (sz := s.heap.size)
  generalize hAe : va_A [(m0, .inr (11, oX11 ra x0)), (ra 13, .inl (kI, 700, .inl q_tape)), (b0, .inl (kS, 4, .inr (.inr (.inr (.inr fw)))))] s.heap.size = A at hD hKL ⊢
  have hA : ∀ q : Nat, s.heap.size ≤ q → A q := fun q h => by rw [← hAe]; exact Or.inr h
  have hS : va_S A s.heap s.heap [] := va_S.rf
  have hP : va_P (dC, dI) vwCl [(m0, .inr (11, oX11 ra x0)), (ra 13, .inl (kI, 700, .inl q_tape)), (b0, .inl (kS, 4, .inr (.inr (.inr (.inr fw)))))] s.heap := hP
  have hl := lv_entry ([.ref m0, .ref b0]) (n := 3) (Nat.le_of_ble_eq_true rfl)
  have hla : entryFrame m args0 3 = entryFrame m ([.ref m0, .ref b0] : List Value).toArray 3 := by rw [hargs]
  rw [hla, lg_entry_eq]
  generalize (lg_sl ([.ref m0, .ref b0]) ++ List.replicate (3 - (lg_sl ([.ref m0, .ref b0])).length) Slot.unset).toArray = ls at hl ⊢
  have hl : lv_has ls 3 [(0, .ref m0), (1, .ref b0)] := hl
  have hJ2 : ∀ (n : Nat) (v2_loc2 : Int32) (H : Heap) (locs : List Loc) (ls : Array Slot), (4 - v2_loc2.toInt).toNat < n → iv 0 4 v2_loc2 → va_P (dC, dI) vwCl [(m0, .inr (11, oX11 ra x0)), (ra 13, .inl (kI, 700, .inl q_tape)), (b0, .inl (kS, 4, .inr (.inr (.inr (.inr fw)))))] H → va_D A [(m0, .inr (11, oX11 ra x0)), (ra 13, .inl (kI, 700, .inl q_tape)), (b0, .inl (kS, 4, .inr (.inr (.inr (.inr fw)))))] → va_S A s.heap H locs → lv_has ls 3 [(0, .ref m0), (1, .ref b0), (2, .int v2_loc2)] → W p l e (headSpec wsX11_which rm_s11_which).room s m args0 below meth c H locs (0) (0) (MQ below (va_Qi (fun (r : Int32) (_ : Unit) => iv (-1) 3 r) (fun _ t => va_P (dC, dI) vwCl [(m0, .inr (11, oX11 ra x0)), (ra 13, .inl (kI, 700, .inl q_tape)), (b0, .inl (kS, 4, .inr (.inr (.inr (.inr fw)))))] t.heap ∧ va_D A [(m0, .inr (11, oX11 ra x0)), (ra 13, .inl (kI, 700, .inl q_tape)), (b0, .inl (kS, 4, .inr (.inr (.inr (.inr fw)))))]) A) args0 s 0 0 A) (F0 m 2 ls []) := by
    intro n
    induction n with
    | zero => intro v2_loc2 H locs ls hm2; exact absurd hm2 (Nat.not_lt_zero _)
    | succ n ih2 =>
      intro v2_loc2 H locs ls hm2 h2_1 hP hD hS hl
      refine lv_iload_n hx hb dX11_which_2 rfl (lv_at hl 2 rfl) ?_
      refine lv_aload_n hx hb dX11_which_3 rfl (lv_at hl 1 rfl) ?_
      refine va_alen (v := 4) hx hb hK hP 2 5 rfl rfl rfl dX11_which_4 ?_
      refine lv_icmp_ge (tgt := 26) hx hb dX11_which_5 (by decide) (fun c1 => ?_) (fun c1 => ?_)
      · have b2 : iv 4 4 v2_loc2 := iv_leR c1 (iv_k (by decide) (by decide) : iv 4 4 4) h2_1 (by decide) (by decide)
        refine lv_iconst (v := (-1)) hx hb dX11_which_26 (by decide) ?_
        have hP9 := hP.sub (ws' := [(m0, .inr (11, oX11 ra x0)), (ra 13, .inl (kI, 700, .inl q_tape)), (b0, .inl (kS, 4, .inr (.inr (.inr (.inr fw)))))]) [0, 1, 2] rfl
        have hD9 := hD.sub (ws' := [(m0, .inr (11, oX11 ra x0)), (ra 13, .inl (kI, 700, .inl q_tape)), (b0, .inl (kS, 4, .inr (.inr (.inr (.inr fw)))))]) [0, 1, 2] (by decide) rfl
        exact W.iret (v := (-1)) hx hb hr (fun t ht hW => ⟨⟨(-1), (), rfl, (iv_w (iv_k (by decide) (by decide) : iv (-1) (-1) (-1)) (by decide) (by decide)), by rw [ht]; exact hP9, hD9⟩, hS.F ht⟩) hS.2.2 dX11_which_27
      · have b3 : iv 0 3 v2_loc2 := iv_ltL (Int32.not_le.mp c1) h2_1 (iv_k (by decide) (by decide) : iv 4 4 4) (by decide) (by decide)
        refine lv_aload_n hx hb dX11_which_8 rfl (lv_at hl 0 rfl) ?_
        refine lv_aload_n hx hb dX11_which_9 rfl (lv_at hl 1 rfl) ?_
        refine lv_iload_n hx hb dX11_which_10 rfl (lv_at hl 2 rfl) ?_
        refine va_aldq hx hb hK hP 2 5 rfl rfl (iv_in b3 (by decide) (by decide)) dX11_which_11 ?_
        rw [hrow _ (by have q := b3; have q2 := q.1; have q3 := q.2; have q4 := cl_nat q (by decide); omega)]
        refine W.eq (g2 := F0 m 12 ls [.ref (adK (j0 + v2_loc2.toNatClampNeg)), .ref m0]) rfl ?_
        have hPc := hP.sub (ws' := [(m0, .inr (11, oX11 ra x0)), (ra 13, .inl (kI, 700, .inl q_tape))]) [0, 1] rfl
        have hDc := hD.sub (ws' := [(m0, .inr (11, oX11 ra x0)), (ra 13, .inl (kI, 700, .inl q_tape))]) [0, 1] (by decide) rfl
        have hFc := va_free (wc := [(m0, .inr (11, oX11 ra x0)), (ra 13, .inl (kI, 700, .inl q_tape))]) hD hS hA [0, 1] rfl
        refine va_calli (va_runV (As := [.ref (adK (j0 + v2_loc2.toNatClampNeg))]) (rest := []) ⟨hx, hb, hml, hown, hts⟩ (s11_is l dC dI kB kI kJ kZ kC kS H.size adK adV m0 ra x0 q_tape (j0 + v2_loc2.toNatClampNeg) (hX) (hq_tape) ((by have q := b3; have q2 := q.1; have q3 := q.2; have q4 := cl_nat q (by decide); omega))) (cwV 1 hts gX11_which_X11_is rfl rfl rfl (by decide +kernel) ⟨Nat.le_of_ble_eq_true rfl, Nat.le_of_ble_eq_true rfl⟩) ⟨fun a U g mk q => by obtain ⟨q0, q1, qP, qE, qD, qL⟩ := q; exact ⟨q0, q1, qP, kE_call qE, qD, kL_call qL⟩, va_recv hK hP (ci := 11) (q0 := 0) rfl rfl, fun U hU hW => ⟨rfl, by rw [hU], by rw [hU]; exact hPc, kE_warm hW hE, hDc.weaken (fun _ _ _ _ => trivial), kL_at hKL hS hFc hW hU⟩⟩ rfl rfl hl.1 rfl (lv_room (Nat.le_of_ble_eq_true rfl)) dX11_which_12 ⟨Nat.le_of_ble_eq_true rfl, Nat.le_of_ble_eq_true rfl⟩) hS (fun q _ h => hFc q h) hFc (fun r4 u t H1 locs ht hvm w5 hB hz1 hk1 hS => ?_)
        obtain ⟨hP1, hD1⟩ := hB
        rw [ht] at hP1
        try dsimp only at w5
        obtain ⟨hP, hD⟩ := va_join (wr := [(b0, .inl (kS, 4, .inr (.inr (.inr (.inr fw)))))]) (w1 := [(m0, .inr (11, oX11 ra x0)), (ra 13, .inl (kI, 700, .inl q_tape))]) hP hD [0, 1] [2] rfl rfl (by decide) (by decide) hk1 hFc hP1 hD1
        generalize H1 = H at hP hS ⊢
        have hP : va_P (dC, dI) vwCl [(b0, .inl (kS, 4, .inr (.inr (.inr (.inr fw))))), (m0, .inr (11, oX11 ra x0)), (ra 13, .inl (kI, 700, .inl q_tape))] H := hP
        have hD : va_D A [(b0, .inl (kS, 4, .inr (.inr (.inr (.inr fw))))), (m0, .inr (11, oX11 ra x0)), (ra 13, .inl (kI, 700, .inl q_tape))] := hD
        refine W.widen (k := 0) (n := 0) (Nat.le_of_ble_eq_true rfl) (Nat.le_of_ble_eq_true rfl) ?_
        refine lv_if_eq (tgt := 20) hx hb dX11_which_15 (by decide) (fun c6 => ?_) (fun c6 => ?_)
        · have b7 : iv 0 0 r4 := iv_eqL c6 (iv_k (by decide) (by decide) : iv 0 0 0)
          refine lv_iinc (v := v2_loc2 + Int32.ofInt 1) (lv' := [(2, .int (v2_loc2 + Int32.ofInt 1)), (0, .ref m0), (1, .ref b0)]) hx hb dX11_which_20 hl (k := 2) rfl (rfl) (by decide) rfl (fun ls hl => ?_)
          have b8 : iv 1 4 (v2_loc2 + Int32.ofInt 1) := iv_add b3 (iv_k (by decide) (by decide) : iv 1 1 (Int32.ofInt 1)) (by decide) (by decide) (by decide) (by decide)
          refine lv_goto (tgt := 2) hx hb dX11_which_23 (by decide) ?_
          exact ih2 (v2_loc2 + Int32.ofInt 1) _ _ _ (ms_up (c := 1) (d := 0) b3 hm2 (by decide) (iv_inc 1 b3 (by decide) (by decide) (by decide) (by decide)) (by decide) rfl) ((iv_w b8 (by decide) (by decide))) (hP.sub [1, 2, 0] rfl) (hD.sub [1, 2, 0] (by decide) rfl) hS (lv_sub hl [1, 2, 0] rfl)
        · have b9 : iv 1 1 r4 := iv_neLo c6 w5 (iv_k (by decide) (by decide) : iv 0 0 0) (by decide) (by decide)
          refine lv_iload_n hx hb dX11_which_18 rfl (lv_at hl 2 rfl) ?_
          have hP9 := hP.sub (ws' := [(m0, .inr (11, oX11 ra x0)), (ra 13, .inl (kI, 700, .inl q_tape)), (b0, .inl (kS, 4, .inr (.inr (.inr (.inr fw)))))]) [1, 2, 0] rfl
          have hD9 := hD.sub (ws' := [(m0, .inr (11, oX11 ra x0)), (ra 13, .inl (kI, 700, .inl q_tape)), (b0, .inl (kS, 4, .inr (.inr (.inr (.inr fw)))))]) [1, 2, 0] (by decide) rfl
          exact W.iret (v := v2_loc2) hx hb hr (fun t ht hW => ⟨⟨v2_loc2, (), rfl, (iv_w b3 (by decide) (by decide)), by rw [ht]; exact hP9, hD9⟩, hS.F ht⟩) hS.2.2 dX11_which_19
  refine lv_iconst (v := 0) hx hb dX11_which_0 (by decide) ?_
  refine lv_istore_n (lv' := [(2, .int 0), (0, .ref m0), (1, .ref b0)]) hx hb dX11_which_1 rfl hl (by decide) rfl (fun ls hl => ?_)
  exact hJ2 _ 0 _ _ _ (Nat.lt_succ_self _) ((iv_w (iv_k (by decide) (by decide) : iv 0 0 0) (by decide) (by decide))) (hP.sub [0, 1, 2] rfl) (hD.sub [0, 1, 2] (by decide) rfl) hS (lv_sub hl [1, 2, 0] rfl)
def rm_s11_numberNow_0_11 : Room := { frames := 1, cells := 0, slots := 0, locals := 21 }
set_option maxHeartbeats 4000000 in
set_option maxRecDepth 100000 in
theorem s11_numberNow_0_11 (l : Launch) (dC : Nat → ClassId) (dI : Nat → Nat → Nat) (kB kI kJ kZ kC kS : ClassId) (sz : Nat) (m0 : Nat) (ra : Nat → Nat) (x0 : Nat → Int32) (hX : fI lX11 hX11 x0) : Met l yX11_numberNow wsX11_numberNow rm_s11_numberNow_0_11 (va_Pc [.ref m0, .int 0, .int 11] (fun U => U.heap.size = sz ∧ va_P (dC, dI) vwCl [(m0, .inr (11, oX11 ra x0))] U.heap ∧ kE dC dI kB kI kJ kZ kC kS U ∧ va_D (fun _ => True) [(m0, .inr (11, oX11 ra x0))])) (va_Qi (fun (r : Int32) (_ : Unit) => iv 0 11 r) (fun _ t => ∃ (x0' : Nat → Int32), fI lX11 hX11 x0' ∧ ((x0' 2).toInt = (x0 2).toInt) ∧ (x0' 3 = x0 3) ∧ (x0' 1 = x0 1) ∧ va_P (dC, dI) vwCl [(m0, .inr (11, oX11 ra x0'))] t.heap ∧ va_D (va_A [(m0, .inr (11, oX11 ra x0))] sz) [(m0, .inr (11, oX11 ra x0'))]) (va_A [(m0, .inr (11, oX11 ra x0))] sz)) 0 0 (va_A [(m0, .inr (11, oX11 ra x0))] sz) := by
  refine Met.ofW (cc := cX11_numberNow) (maxL := 3) (ret := (some .int)) (by decide) rfl ?_
  intro p e s m args0 below meth c s₁ B hml hv
  obtain ⟨hargs, hsz, hP, hE, hD0⟩ := hv
  have hx := B.exec
  have hb := B.bytes
  have hr := B.returns
  have hts := atoms_spec (ws := wsX11_numberNow) B.pre
  have hown : s.vm.findClass RX11 = some m.cls := findClass_of_methodNamed B.named
  have hlocks := B.notSynchronized
  have hK := hE.1
  have hin11 : ∀ w ∈ wsX110, w ∈ wsX11_numberNow := fun _ h9 => List.mem_cons_of_mem _ (List.mem_append_right _ h9)
  have hw_0 := hts (.fieldLink RX11 184 "PathProberModel" "bad" "I") (List.mem_of_getElem? (i := 1) (by decide +kernel))
  have hw_1 := hts (.fieldLink RX11 161 "PathProberModel" "token" "I") (List.mem_of_getElem? (i := 2) (by decide +kernel))
  have hw_2 := hts (.fieldLink RX11 181 "PathProberModel" "stops" "I") (List.mem_of_getElem? (i := 3) (by decide +kernel))
  have hw_3 := hts (.fieldLink RX11 158 "PathProberModel" "begins" "I") (List.mem_of_getElem? (i := 4) (by decide +kernel))
  have hw_4 := hts (.fieldLink RX11 171 "PathProberModel" "number" "I") (List.mem_of_getElem? (i := 5) (by decide +kernel))
  subst hsz
  have hD := hD0.self (sz := s.heap.size)
  generalize hAe : va_A [(m0, .inr (11, oX11 ra x0))] s.heap.size = A at hD ⊢
  have hA : ∀ q : Nat, s.heap.size ≤ q → A q := fun q h => by rw [← hAe]; exact Or.inr h
  have hS : va_S A s.heap s.heap [] := va_S.rf
  have hP : va_P (dC, dI) vwCl [(m0, .inr (11, oX11 ra x0))] s.heap := hP
  have hl := lv_entry ([.ref m0, .int 0, .int 11]) (n := 3) (Nat.le_of_ble_eq_true rfl)
  have hla : entryFrame m args0 3 = entryFrame m ([.ref m0, .int 0, .int 11] : List Value).toArray 3 := by rw [hargs]
  rw [hla, lg_entry_eq]
  generalize (lg_sl ([.ref m0, .int 0, .int 11]) ++ List.replicate (3 - (lg_sl ([.ref m0, .int 0, .int 11])).length) Slot.unset).toArray = ls at hl ⊢
  have hl : lv_has ls 3 [(0, .ref m0), (1, .int 0), (2, .int 11)] := hl
  refine lv_aload_n hx hb dX11_numberNow_0 rfl (lv_at hl 0 rfl) ?_
  refine va_get (D := (dC, dI)) (ci := 11) (v := .int (x0 8)) (C := RX11) (T := TX11) (N := 61) hx hb hts hin11 hown hK hP 0 rfl rfl 22 (by decide) hw_0 (fun _ h9 => h9) rfl dX11_numberNow_1 ?_
  refine lv_if_eq (tgt := 9) hx hb dX11_numberNow_4 (by decide) (fun c1 => ?_) (fun c1 => ?_)
  · have b2 : iv 0 0 (x0 8) := iv_eqL c1 (iv_k (by decide) (by decide) : iv 0 0 0)
    refine lv_aload_n hx hb dX11_numberNow_9 rfl (lv_at hl 0 rfl) ?_
    refine va_get (D := (dC, dI)) (ci := 11) (v := .int (x0 4)) (C := RX11) (T := TX11) (N := 61) hx hb hts hin11 hown hK hP 0 rfl rfl 18 (by decide) hw_1 (fun _ h9 => h9) rfl dX11_numberNow_10 ?_
    refine lv_iconst (v := 2) hx hb dX11_numberNow_13 (by decide) ?_
    refine lv_icmp_eq (tgt := 25) hx hb dX11_numberNow_14 (by decide) (fun c3 => ?_) (fun c3 => ?_)
    · have b4 : iv 2 2 (x0 4) := iv_eqL c3 (iv_k (by decide) (by decide) : iv 2 2 2)
      refine lv_aload_n hx hb dX11_numberNow_25 rfl (lv_at hl 0 rfl) ?_
      refine va_get (D := (dC, dI)) (ci := 11) (v := .int (x0 7)) (C := RX11) (T := TX11) (N := 61) hx hb hts hin11 hown hK hP 0 rfl rfl 21 (by decide) hw_2 (fun _ h9 => h9) rfl dX11_numberNow_26 ?_
      refine lv_aload_n hx hb dX11_numberNow_29 rfl (lv_at hl 0 rfl) ?_
      refine va_get (D := (dC, dI)) (ci := 11) (v := .int (x0 6)) (C := RX11) (T := TX11) (N := 61) hx hb hts hin11 hown hK hP 0 rfl rfl 20 (by decide) hw_3 (fun _ h9 => h9) rfl dX11_numberNow_30 ?_
      refine lv_isub hx hb dX11_numberNow_33 ?_
      refine iv_top (a := (-700)) (b := 700) (iv_sub (hX 7 : iv 0 700 (x0 7)) (hX 6 : iv 0 700 (x0 6)) (by decide) (by decide) (by decide) (by decide)) (fun z5 b6 => ?_)
      refine lv_iconst (v := 2) hx hb dX11_numberNow_34 (by decide) ?_
      refine lv_icmp_gt (tgt := 54) hx hb dX11_numberNow_35 (by decide) (fun c7 => ?_) (fun c7 => ?_)
      · have b8 : iv 3 700 z5 := iv_ltR c7 (iv_k (by decide) (by decide) : iv 2 2 2) b6 (by decide) (by decide)
        refine lv_aload_n hx hb dX11_numberNow_54 rfl (lv_at hl 0 rfl) ?_
        refine lv_iconst (v := 2) hx hb dX11_numberNow_55 (by decide) ?_
        have hPc := hP.sub (ws' := [(m0, .inr (11, oX11 ra x0))]) [0] rfl
        have hDc := hD.sub (ws' := [(m0, .inr (11, oX11 ra x0))]) [0] (by decide) rfl
        have hFc := va_free (wc := [(m0, .inr (11, oX11 ra x0))]) hD hS hA [0] rfl
        refine va_callv (va_runV (As := [.int 2]) (rest := []) ⟨hx, hb, hml, hown, hts⟩ (s11_wrong l dC dI kB kI kJ kZ kC kS s.heap.size m0 ra x0 2 (hX) ((iv_w (iv_k (by decide) (by decide) : iv 2 2 2) (by decide) (by decide)))) (cwV 1 hts gX11_numberNow_X11_wrong rfl rfl rfl (by decide +kernel) ⟨Nat.le_of_ble_eq_true rfl, Nat.le_of_ble_eq_true rfl⟩) ⟨fun a U g mk q => by obtain ⟨q0, q1, qP, qE, qD⟩ := q; exact ⟨q0, q1, qP, kE_call qE, qD⟩, va_recv hK hP (ci := 11) (q0 := 0) rfl rfl, fun U hU hW => ⟨rfl, by rw [hU], by rw [hU]; exact hPc, kE_warm hW hE, hDc.weaken (fun _ _ _ _ => trivial)⟩⟩ rfl rfl hl.1 rfl (lv_room (Nat.le_of_ble_eq_true rfl)) dX11_numberNow_56 ⟨Nat.le_of_ble_eq_true rfl, Nat.le_of_ble_eq_true rfl⟩) hS (fun q _ h => hFc q h) hFc (fun u t H1 locs ht hvm w10 hB hz1 hk1 hS => ?_)
        obtain ⟨y11, hq12, hq13, hq14, hq15, hq16, hP1, hD1⟩ := hB
        rw [ht] at hP1
        try dsimp only at w10
        obtain ⟨hP, hD⟩ := va_join (wr := []) (w1 := [(m0, .inr (11, oX11 ra y11))]) hP hD [0] [] rfl rfl (by decide) (by decide) hk1 hFc hP1 hD1
        generalize H1 = H at hP hS ⊢
        have hP : va_P (dC, dI) vwCl [(m0, .inr (11, oX11 ra y11))] H := hP
        have hD : va_D A [(m0, .inr (11, oX11 ra y11))] := hD
        refine W.widen (k := 0) (n := 0) (Nat.le_of_ble_eq_true rfl) (Nat.le_of_ble_eq_true rfl) ?_
        refine lv_aload_n hx hb dX11_numberNow_59 rfl (lv_at hl 0 rfl) ?_
        refine va_get (D := (dC, dI)) (ci := 11) (v := .int (y11 8)) (C := RX11) (T := TX11) (N := 61) hx hb hts hin11 hown hK hP 0 rfl rfl 22 (by decide) hw_0 (fun _ h9 => h9) rfl dX11_numberNow_60 ?_
        refine lv_if_ne (tgt := 73) hx hb dX11_numberNow_63 (by decide) (fun _ => ?_) (fun c9 => absurd c9 (iv_ne hq13 (iv_k (by decide) (by decide) : iv 0 0 0) (by decide)))
        refine lv_iload_n hx hb dX11_numberNow_73 rfl (lv_at hl 1 rfl) ?_
        have hP9 := hP.sub (ws' := [(m0, .inr (11, oX11 ra y11))]) [0] rfl
        have hD9 := hD.sub (ws' := [(m0, .inr (11, oX11 ra y11))]) [0] (by decide) rfl
        exact W.iret (v := 0) hx hb hr (fun t ht hW => ⟨⟨0, (), rfl, (iv_w (iv_k (by decide) (by decide) : iv 0 0 0) (by decide) (by decide)), y11, hq12, (show (y11 2).toInt = (x0 2).toInt from by omega), (show y11 3 = x0 3 from hq15), (show y11 1 = x0 1 from hq16), by rw [ht]; exact hP9, hD9⟩, hS.F ht⟩) hS.2.2 dX11_numberNow_74
      · have b17 : iv (-700) 2 z5 := iv_leL (Int32.not_lt.mp c7) b6 (iv_k (by decide) (by decide) : iv 2 2 2) (by decide) (by decide)
        refine lv_aload_n hx hb dX11_numberNow_38 rfl (lv_at hl 0 rfl) ?_
        refine va_get (D := (dC, dI)) (ci := 11) (v := .int (x0 5)) (C := RX11) (T := TX11) (N := 61) hx hb hts hin11 hown hK hP 0 rfl rfl 19 (by decide) hw_4 (fun _ h9 => h9) rfl dX11_numberNow_39 ?_
        refine lv_iload_n hx hb dX11_numberNow_42 rfl (lv_at hl 1 rfl) ?_
        refine lv_icmp_lt (tgt := 54) hx hb dX11_numberNow_43 (by decide) (fun c18 => ?_) (fun c18 => ?_)
        · have b19 : iv (-2147483648) (-1) (x0 5) := iv_ltL c18 (hX 5 : iv (-2147483648) 2147483647 (x0 5)) (iv_k (by decide) (by decide) : iv 0 0 0) (by decide) (by decide)
          refine lv_aload_n hx hb dX11_numberNow_54 rfl (lv_at hl 0 rfl) ?_
          refine lv_iconst (v := 2) hx hb dX11_numberNow_55 (by decide) ?_
          have hPc := hP.sub (ws' := [(m0, .inr (11, oX11 ra x0))]) [0] rfl
          have hDc := hD.sub (ws' := [(m0, .inr (11, oX11 ra x0))]) [0] (by decide) rfl
          have hFc := va_free (wc := [(m0, .inr (11, oX11 ra x0))]) hD hS hA [0] rfl
          refine va_callv (va_runV (As := [.int 2]) (rest := []) ⟨hx, hb, hml, hown, hts⟩ (s11_wrong l dC dI kB kI kJ kZ kC kS s.heap.size m0 ra x0 2 (hX) ((iv_w (iv_k (by decide) (by decide) : iv 2 2 2) (by decide) (by decide)))) (cwV 1 hts gX11_numberNow_X11_wrong rfl rfl rfl (by decide +kernel) ⟨Nat.le_of_ble_eq_true rfl, Nat.le_of_ble_eq_true rfl⟩) ⟨fun a U g mk q => by obtain ⟨q0, q1, qP, qE, qD⟩ := q; exact ⟨q0, q1, qP, kE_call qE, qD⟩, va_recv hK hP (ci := 11) (q0 := 0) rfl rfl, fun U hU hW => ⟨rfl, by rw [hU], by rw [hU]; exact hPc, kE_warm hW hE, hDc.weaken (fun _ _ _ _ => trivial)⟩⟩ rfl rfl hl.1 rfl (lv_room (Nat.le_of_ble_eq_true rfl)) dX11_numberNow_56 ⟨Nat.le_of_ble_eq_true rfl, Nat.le_of_ble_eq_true rfl⟩) hS (fun q _ h => hFc q h) hFc (fun u t H1 locs ht hvm w21 hB hz1 hk1 hS => ?_)
          obtain ⟨y22, hq23, hq24, hq25, hq26, hq27, hP1, hD1⟩ := hB
          rw [ht] at hP1
          try dsimp only at w21
          obtain ⟨hP, hD⟩ := va_join (wr := []) (w1 := [(m0, .inr (11, oX11 ra y22))]) hP hD [0] [] rfl rfl (by decide) (by decide) hk1 hFc hP1 hD1
          generalize H1 = H at hP hS ⊢
          have hP : va_P (dC, dI) vwCl [(m0, .inr (11, oX11 ra y22))] H := hP
          have hD : va_D A [(m0, .inr (11, oX11 ra y22))] := hD
          refine W.widen (k := 0) (n := 0) (Nat.le_of_ble_eq_true rfl) (Nat.le_of_ble_eq_true rfl) ?_
          refine lv_aload_n hx hb dX11_numberNow_59 rfl (lv_at hl 0 rfl) ?_
          refine va_get (D := (dC, dI)) (ci := 11) (v := .int (y22 8)) (C := RX11) (T := TX11) (N := 61) hx hb hts hin11 hown hK hP 0 rfl rfl 22 (by decide) hw_0 (fun _ h9 => h9) rfl dX11_numberNow_60 ?_
          refine lv_if_ne (tgt := 73) hx hb dX11_numberNow_63 (by decide) (fun _ => ?_) (fun c9 => absurd c9 (iv_ne hq24 (iv_k (by decide) (by decide) : iv 0 0 0) (by decide)))
          refine lv_iload_n hx hb dX11_numberNow_73 rfl (lv_at hl 1 rfl) ?_
          have hP9 := hP.sub (ws' := [(m0, .inr (11, oX11 ra y22))]) [0] rfl
          have hD9 := hD.sub (ws' := [(m0, .inr (11, oX11 ra y22))]) [0] (by decide) rfl
          exact W.iret (v := 0) hx hb hr (fun t ht hW => ⟨⟨0, (), rfl, (iv_w (iv_k (by decide) (by decide) : iv 0 0 0) (by decide) (by decide)), y22, hq23, (show (y22 2).toInt = (x0 2).toInt from by omega), (show y22 3 = x0 3 from hq26), (show y22 1 = x0 1 from hq27), by rw [ht]; exact hP9, hD9⟩, hS.F ht⟩) hS.2.2 dX11_numberNow_74
        · have b28 : iv 0 2147483647 (x0 5) := iv_leR (Int32.not_lt.mp c18) (iv_k (by decide) (by decide) : iv 0 0 0) (hX 5 : iv (-2147483648) 2147483647 (x0 5)) (by decide) (by decide)
          refine lv_aload_n hx hb dX11_numberNow_46 rfl (lv_at hl 0 rfl) ?_
          refine va_get (D := (dC, dI)) (ci := 11) (v := .int (x0 5)) (C := RX11) (T := TX11) (N := 61) hx hb hts hin11 hown hK hP 0 rfl rfl 19 (by decide) hw_4 (fun _ h9 => h9) rfl dX11_numberNow_47 ?_
          refine lv_iload_n hx hb dX11_numberNow_50 rfl (lv_at hl 2 rfl) ?_
          refine lv_icmp_le (tgt := 59) hx hb dX11_numberNow_51 (by decide) (fun c29 => ?_) (fun c29 => ?_)
          · have b30 : iv 0 11 (x0 5) := iv_leL c29 b28 (iv_k (by decide) (by decide) : iv 11 11 11) (by decide) (by decide)
            refine lv_aload_n hx hb dX11_numberNow_59 rfl (lv_at hl 0 rfl) ?_
            refine va_get (D := (dC, dI)) (ci := 11) (v := .int (x0 8)) (C := RX11) (T := TX11) (N := 61) hx hb hts hin11 hown hK hP 0 rfl rfl 22 (by decide) hw_0 (fun _ h9 => h9) rfl dX11_numberNow_60 ?_
            refine lv_if_ne (tgt := 73) hx hb dX11_numberNow_63 (by decide) (fun c9 => absurd (c1) c9) (fun _ => ?_)
            refine lv_aload_n hx hb dX11_numberNow_66 rfl (lv_at hl 0 rfl) ?_
            refine va_get (D := (dC, dI)) (ci := 11) (v := .int (x0 5)) (C := RX11) (T := TX11) (N := 61) hx hb hts hin11 hown hK hP 0 rfl rfl 19 (by decide) hw_4 (fun _ h9 => h9) rfl dX11_numberNow_67 ?_
            refine lv_goto (tgt := 74) hx hb dX11_numberNow_70 (by decide) ?_
            have hP9 := hP.sub (ws' := [(m0, .inr (11, oX11 ra x0))]) [0] rfl
            have hD9 := hD.sub (ws' := [(m0, .inr (11, oX11 ra x0))]) [0] (by decide) rfl
            exact W.iret (v := x0 5) hx hb hr (fun t ht hW => ⟨⟨x0 5, (), rfl, b30, x0, hX, (show (x0 2).toInt = (x0 2).toInt from by omega), (show x0 3 = x0 3 from rfl), (show x0 1 = x0 1 from rfl), by rw [ht]; exact hP9, hD9⟩, hS.F ht⟩) hS.2.2 dX11_numberNow_74
          · have b31 : iv 12 2147483647 (x0 5) := iv_ltR (Int32.not_le.mp c29) (iv_k (by decide) (by decide) : iv 11 11 11) b28 (by decide) (by decide)
            refine lv_aload_n hx hb dX11_numberNow_54 rfl (lv_at hl 0 rfl) ?_
            refine lv_iconst (v := 2) hx hb dX11_numberNow_55 (by decide) ?_
            have hPc := hP.sub (ws' := [(m0, .inr (11, oX11 ra x0))]) [0] rfl
            have hDc := hD.sub (ws' := [(m0, .inr (11, oX11 ra x0))]) [0] (by decide) rfl
            have hFc := va_free (wc := [(m0, .inr (11, oX11 ra x0))]) hD hS hA [0] rfl
            refine va_callv (va_runV (As := [.int 2]) (rest := []) ⟨hx, hb, hml, hown, hts⟩ (s11_wrong l dC dI kB kI kJ kZ kC kS s.heap.size m0 ra x0 2 (hX) ((iv_w (iv_k (by decide) (by decide) : iv 2 2 2) (by decide) (by decide)))) (cwV 1 hts gX11_numberNow_X11_wrong rfl rfl rfl (by decide +kernel) ⟨Nat.le_of_ble_eq_true rfl, Nat.le_of_ble_eq_true rfl⟩) ⟨fun a U g mk q => by obtain ⟨q0, q1, qP, qE, qD⟩ := q; exact ⟨q0, q1, qP, kE_call qE, qD⟩, va_recv hK hP (ci := 11) (q0 := 0) rfl rfl, fun U hU hW => ⟨rfl, by rw [hU], by rw [hU]; exact hPc, kE_warm hW hE, hDc.weaken (fun _ _ _ _ => trivial)⟩⟩ rfl rfl hl.1 rfl (lv_room (Nat.le_of_ble_eq_true rfl)) dX11_numberNow_56 ⟨Nat.le_of_ble_eq_true rfl, Nat.le_of_ble_eq_true rfl⟩) hS (fun q _ h => hFc q h) hFc (fun u t H1 locs ht hvm w33 hB hz1 hk1 hS => ?_)
            obtain ⟨y34, hq35, hq36, hq37, hq38, hq39, hP1, hD1⟩ := hB
            rw [ht] at hP1
            try dsimp only at w33
            obtain ⟨hP, hD⟩ := va_join (wr := []) (w1 := [(m0, .inr (11, oX11 ra y34))]) hP hD [0] [] rfl rfl (by decide) (by decide) hk1 hFc hP1 hD1
            generalize H1 = H at hP hS ⊢
            have hP : va_P (dC, dI) vwCl [(m0, .inr (11, oX11 ra y34))] H := hP
            have hD : va_D A [(m0, .inr (11, oX11 ra y34))] := hD
            refine W.widen (k := 0) (n := 0) (Nat.le_of_ble_eq_true rfl) (Nat.le_of_ble_eq_true rfl) ?_
            refine lv_aload_n hx hb dX11_numberNow_59 rfl (lv_at hl 0 rfl) ?_
            refine va_get (D := (dC, dI)) (ci := 11) (v := .int (y34 8)) (C := RX11) (T := TX11) (N := 61) hx hb hts hin11 hown hK hP 0 rfl rfl 22 (by decide) hw_0 (fun _ h9 => h9) rfl dX11_numberNow_60 ?_
            refine lv_if_ne (tgt := 73) hx hb dX11_numberNow_63 (by decide) (fun _ => ?_) (fun c9 => absurd c9 (iv_ne hq36 (iv_k (by decide) (by decide) : iv 0 0 0) (by decide)))
            refine lv_iload_n hx hb dX11_numberNow_73 rfl (lv_at hl 1 rfl) ?_
            have hP9 := hP.sub (ws' := [(m0, .inr (11, oX11 ra y34))]) [0] rfl
            have hD9 := hD.sub (ws' := [(m0, .inr (11, oX11 ra y34))]) [0] (by decide) rfl
            exact W.iret (v := 0) hx hb hr (fun t ht hW => ⟨⟨0, (), rfl, (iv_w (iv_k (by decide) (by decide) : iv 0 0 0) (by decide) (by decide)), y34, hq35, (show (y34 2).toInt = (x0 2).toInt from by omega), (show y34 3 = x0 3 from hq38), (show y34 1 = x0 1 from hq39), by rw [ht]; exact hP9, hD9⟩, hS.F ht⟩) hS.2.2 dX11_numberNow_74
    · refine lv_aload_n hx hb dX11_numberNow_17 rfl (lv_at hl 0 rfl) ?_
      refine lv_iconst (v := 1) hx hb dX11_numberNow_18 (by decide) ?_
      have hPc := hP.sub (ws' := [(m0, .inr (11, oX11 ra x0))]) [0] rfl
      have hDc := hD.sub (ws' := [(m0, .inr (11, oX11 ra x0))]) [0] (by decide) rfl
      have hFc := va_free (wc := [(m0, .inr (11, oX11 ra x0))]) hD hS hA [0] rfl
      refine va_callv (va_runV (As := [.int 1]) (rest := []) ⟨hx, hb, hml, hown, hts⟩ (s11_wrong l dC dI kB kI kJ kZ kC kS s.heap.size m0 ra x0 1 (hX) ((iv_w (iv_k (by decide) (by decide) : iv 1 1 1) (by decide) (by decide)))) (cwV 1 hts gX11_numberNow_X11_wrong rfl rfl rfl (by decide +kernel) ⟨Nat.le_of_ble_eq_true rfl, Nat.le_of_ble_eq_true rfl⟩) ⟨fun a U g mk q => by obtain ⟨q0, q1, qP, qE, qD⟩ := q; exact ⟨q0, q1, qP, kE_call qE, qD⟩, va_recv hK hP (ci := 11) (q0 := 0) rfl rfl, fun U hU hW => ⟨rfl, by rw [hU], by rw [hU]; exact hPc, kE_warm hW hE, hDc.weaken (fun _ _ _ _ => trivial)⟩⟩ rfl rfl hl.1 rfl (lv_room (Nat.le_of_ble_eq_true rfl)) dX11_numberNow_19 ⟨Nat.le_of_ble_eq_true rfl, Nat.le_of_ble_eq_true rfl⟩) hS (fun q _ h => hFc q h) hFc (fun u t H1 locs ht hvm w41 hB hz1 hk1 hS => ?_)
      obtain ⟨y42, hq43, hq44, hq45, hq46, hq47, hP1, hD1⟩ := hB
      rw [ht] at hP1
      try dsimp only at w41
      obtain ⟨hP, hD⟩ := va_join (wr := []) (w1 := [(m0, .inr (11, oX11 ra y42))]) hP hD [0] [] rfl rfl (by decide) (by decide) hk1 hFc hP1 hD1
      generalize H1 = H at hP hS ⊢
      have hP : va_P (dC, dI) vwCl [(m0, .inr (11, oX11 ra y42))] H := hP
      have hD : va_D A [(m0, .inr (11, oX11 ra y42))] := hD
      refine W.widen (k := 0) (n := 0) (Nat.le_of_ble_eq_true rfl) (Nat.le_of_ble_eq_true rfl) ?_
      refine lv_goto (tgt := 59) hx hb dX11_numberNow_22 (by decide) ?_
      refine lv_aload_n hx hb dX11_numberNow_59 rfl (lv_at hl 0 rfl) ?_
      refine va_get (D := (dC, dI)) (ci := 11) (v := .int (y42 8)) (C := RX11) (T := TX11) (N := 61) hx hb hts hin11 hown hK hP 0 rfl rfl 22 (by decide) hw_0 (fun _ h9 => h9) rfl dX11_numberNow_60 ?_
      refine lv_if_ne (tgt := 73) hx hb dX11_numberNow_63 (by decide) (fun _ => ?_) (fun c9 => absurd c9 (iv_ne hq44 (iv_k (by decide) (by decide) : iv 0 0 0) (by decide)))
      refine lv_iload_n hx hb dX11_numberNow_73 rfl (lv_at hl 1 rfl) ?_
      have hP9 := hP.sub (ws' := [(m0, .inr (11, oX11 ra y42))]) [0] rfl
      have hD9 := hD.sub (ws' := [(m0, .inr (11, oX11 ra y42))]) [0] (by decide) rfl
      exact W.iret (v := 0) hx hb hr (fun t ht hW => ⟨⟨0, (), rfl, (iv_w (iv_k (by decide) (by decide) : iv 0 0 0) (by decide) (by decide)), y42, hq43, (show (y42 2).toInt = (x0 2).toInt from by omega), (show y42 3 = x0 3 from hq46), (show y42 1 = x0 1 from hq47), by rw [ht]; exact hP9, hD9⟩, hS.F ht⟩) hS.2.2 dX11_numberNow_74
  · have b48 : iv 1 5 (x0 8) := iv_neLo c1 (hX 8 : iv 0 5 (x0 8)) (iv_k (by decide) (by decide) : iv 0 0 0) (by decide) (by decide)
    refine lv_iload_n hx hb dX11_numberNow_7 rfl (lv_at hl 1 rfl) ?_
    have hP9 := hP.sub (ws' := [(m0, .inr (11, oX11 ra x0))]) [0] rfl
    have hD9 := hD.sub (ws' := [(m0, .inr (11, oX11 ra x0))]) [0] (by decide) rfl
    exact W.iret (v := 0) hx hb hr (fun t ht hW => ⟨⟨0, (), rfl, (iv_w (iv_k (by decide) (by decide) : iv 0 0 0) (by decide) (by decide)), x0, hX, (show (x0 2).toInt = (x0 2).toInt from by omega), (show x0 3 = x0 3 from rfl), (show x0 1 = x0 1 from rfl), by rw [ht]; exact hP9, hD9⟩, hS.F ht⟩) hS.2.2 dX11_numberNow_8
def rm_s11_numberNow_0_15 : Room := { frames := 1, cells := 0, slots := 0, locals := 21 }
set_option maxHeartbeats 4000000 in
set_option maxRecDepth 100000 in
theorem s11_numberNow_0_15 (l : Launch) (dC : Nat → ClassId) (dI : Nat → Nat → Nat) (kB kI kJ kZ kC kS : ClassId) (sz : Nat) (m0 : Nat) (ra : Nat → Nat) (x0 : Nat → Int32) (hX : fI lX11 hX11 x0) : Met l yX11_numberNow wsX11_numberNow rm_s11_numberNow_0_15 (va_Pc [.ref m0, .int 0, .int 15] (fun U => U.heap.size = sz ∧ va_P (dC, dI) vwCl [(m0, .inr (11, oX11 ra x0))] U.heap ∧ kE dC dI kB kI kJ kZ kC kS U ∧ va_D (fun _ => True) [(m0, .inr (11, oX11 ra x0))])) (va_Qi (fun (r : Int32) (_ : Unit) => iv 0 15 r) (fun _ t => ∃ (x0' : Nat → Int32), fI lX11 hX11 x0' ∧ ((x0' 2).toInt = (x0 2).toInt) ∧ (x0' 3 = x0 3) ∧ (x0' 1 = x0 1) ∧ va_P (dC, dI) vwCl [(m0, .inr (11, oX11 ra x0'))] t.heap ∧ va_D (va_A [(m0, .inr (11, oX11 ra x0))] sz) [(m0, .inr (11, oX11 ra x0'))]) (va_A [(m0, .inr (11, oX11 ra x0))] sz)) 0 0 (va_A [(m0, .inr (11, oX11 ra x0))] sz) := by
  refine Met.ofW (cc := cX11_numberNow) (maxL := 3) (ret := (some .int)) (by decide) rfl ?_
  intro p e s m args0 below meth c s₁ B hml hv
  obtain ⟨hargs, hsz, hP, hE, hD0⟩ := hv
  have hx := B.exec
  have hb := B.bytes
  have hr := B.returns
  have hts := atoms_spec (ws := wsX11_numberNow) B.pre
  have hown : s.vm.findClass RX11 = some m.cls := findClass_of_methodNamed B.named
  have hlocks := B.notSynchronized
  have hK := hE.1
  have hin11 : ∀ w ∈ wsX110, w ∈ wsX11_numberNow := fun _ h9 => List.mem_cons_of_mem _ (List.mem_append_right _ h9)
  have hw_0 := hts (.fieldLink RX11 184 "PathProberModel" "bad" "I") (List.mem_of_getElem? (i := 1) (by decide +kernel))
  have hw_1 := hts (.fieldLink RX11 161 "PathProberModel" "token" "I") (List.mem_of_getElem? (i := 2) (by decide +kernel))
  have hw_2 := hts (.fieldLink RX11 181 "PathProberModel" "stops" "I") (List.mem_of_getElem? (i := 3) (by decide +kernel))
  have hw_3 := hts (.fieldLink RX11 158 "PathProberModel" "begins" "I") (List.mem_of_getElem? (i := 4) (by decide +kernel))
  have hw_4 := hts (.fieldLink RX11 171 "PathProberModel" "number" "I") (List.mem_of_getElem? (i := 5) (by decide +kernel))
  subst hsz
  have hD := hD0.self (sz := s.heap.size)
  generalize hAe : va_A [(m0, .inr (11, oX11 ra x0))] s.heap.size = A at hD ⊢
  have hA : ∀ q : Nat, s.heap.size ≤ q → A q := fun q h => by rw [← hAe]; exact Or.inr h
  have hS : va_S A s.heap s.heap [] := va_S.rf
  have hP : va_P (dC, dI) vwCl [(m0, .inr (11, oX11 ra x0))] s.heap := hP
  have hl := lv_entry ([.ref m0, .int 0, .int 15]) (n := 3) (Nat.le_of_ble_eq_true rfl)
  have hla : entryFrame m args0 3 = entryFrame m ([.ref m0, .int 0, .int 15] : List Value).toArray 3 := by rw [hargs]
  rw [hla, lg_entry_eq]
  generalize (lg_sl ([.ref m0, .int 0, .int 15]) ++ List.replicate (3 - (lg_sl ([.ref m0, .int 0, .int 15])).length) Slot.unset).toArray = ls at hl ⊢
  have hl : lv_has ls 3 [(0, .ref m0), (1, .int 0), (2, .int 15)] := hl
  refine lv_aload_n hx hb dX11_numberNow_0 rfl (lv_at hl 0 rfl) ?_
  refine va_get (D := (dC, dI)) (ci := 11) (v := .int (x0 8)) (C := RX11) (T := TX11) (N := 61) hx hb hts hin11 hown hK hP 0 rfl rfl 22 (by decide) hw_0 (fun _ h9 => h9) rfl dX11_numberNow_1 ?_
  refine lv_if_eq (tgt := 9) hx hb dX11_numberNow_4 (by decide) (fun c1 => ?_) (fun c1 => ?_)
  · have b2 : iv 0 0 (x0 8) := iv_eqL c1 (iv_k (by decide) (by decide) : iv 0 0 0)
    refine lv_aload_n hx hb dX11_numberNow_9 rfl (lv_at hl 0 rfl) ?_
    refine va_get (D := (dC, dI)) (ci := 11) (v := .int (x0 4)) (C := RX11) (T := TX11) (N := 61) hx hb hts hin11 hown hK hP 0 rfl rfl 18 (by decide) hw_1 (fun _ h9 => h9) rfl dX11_numberNow_10 ?_
    refine lv_iconst (v := 2) hx hb dX11_numberNow_13 (by decide) ?_
    refine lv_icmp_eq (tgt := 25) hx hb dX11_numberNow_14 (by decide) (fun c3 => ?_) (fun c3 => ?_)
    · have b4 : iv 2 2 (x0 4) := iv_eqL c3 (iv_k (by decide) (by decide) : iv 2 2 2)
      refine lv_aload_n hx hb dX11_numberNow_25 rfl (lv_at hl 0 rfl) ?_
      refine va_get (D := (dC, dI)) (ci := 11) (v := .int (x0 7)) (C := RX11) (T := TX11) (N := 61) hx hb hts hin11 hown hK hP 0 rfl rfl 21 (by decide) hw_2 (fun _ h9 => h9) rfl dX11_numberNow_26 ?_
      refine lv_aload_n hx hb dX11_numberNow_29 rfl (lv_at hl 0 rfl) ?_
      refine va_get (D := (dC, dI)) (ci := 11) (v := .int (x0 6)) (C := RX11) (T := TX11) (N := 61) hx hb hts hin11 hown hK hP 0 rfl rfl 20 (by decide) hw_3 (fun _ h9 => h9) rfl dX11_numberNow_30 ?_
      refine lv_isub hx hb dX11_numberNow_33 ?_
      refine iv_top (a := (-700)) (b := 700) (iv_sub (hX 7 : iv 0 700 (x0 7)) (hX 6 : iv 0 700 (x0 6)) (by decide) (by decide) (by decide) (by decide)) (fun z5 b6 => ?_)
      refine lv_iconst (v := 2) hx hb dX11_numberNow_34 (by decide) ?_
      refine lv_icmp_gt (tgt := 54) hx hb dX11_numberNow_35 (by decide) (fun c7 => ?_) (fun c7 => ?_)
      · have b8 : iv 3 700 z5 := iv_ltR c7 (iv_k (by decide) (by decide) : iv 2 2 2) b6 (by decide) (by decide)
        refine lv_aload_n hx hb dX11_numberNow_54 rfl (lv_at hl 0 rfl) ?_
        refine lv_iconst (v := 2) hx hb dX11_numberNow_55 (by decide) ?_
        have hPc := hP.sub (ws' := [(m0, .inr (11, oX11 ra x0))]) [0] rfl
        have hDc := hD.sub (ws' := [(m0, .inr (11, oX11 ra x0))]) [0] (by decide) rfl
        have hFc := va_free (wc := [(m0, .inr (11, oX11 ra x0))]) hD hS hA [0] rfl
        refine va_callv (va_runV (As := [.int 2]) (rest := []) ⟨hx, hb, hml, hown, hts⟩ (s11_wrong l dC dI kB kI kJ kZ kC kS s.heap.size m0 ra x0 2 (hX) ((iv_w (iv_k (by decide) (by decide) : iv 2 2 2) (by decide) (by decide)))) (cwV 1 hts gX11_numberNow_X11_wrong rfl rfl rfl (by decide +kernel) ⟨Nat.le_of_ble_eq_true rfl, Nat.le_of_ble_eq_true rfl⟩) ⟨fun a U g mk q => by obtain ⟨q0, q1, qP, qE, qD⟩ := q; exact ⟨q0, q1, qP, kE_call qE, qD⟩, va_recv hK hP (ci := 11) (q0 := 0) rfl rfl, fun U hU hW => ⟨rfl, by rw [hU], by rw [hU]; exact hPc, kE_warm hW hE, hDc.weaken (fun _ _ _ _ => trivial)⟩⟩ rfl rfl hl.1 rfl (lv_room (Nat.le_of_ble_eq_true rfl)) dX11_numberNow_56 ⟨Nat.le_of_ble_eq_true rfl, Nat.le_of_ble_eq_true rfl⟩) hS (fun q _ h => hFc q h) hFc (fun u t H1 locs ht hvm w10 hB hz1 hk1 hS => ?_)
        obtain ⟨y11, hq12, hq13, hq14, hq15, hq16, hP1, hD1⟩ := hB
        rw [ht] at hP1
        try dsimp only at w10
        obtain ⟨hP, hD⟩ := va_join (wr := []) (w1 := [(m0, .inr (11, oX11 ra y11))]) hP hD [0] [] rfl rfl (by decide) (by decide) hk1 hFc hP1 hD1
        generalize H1 = H at hP hS ⊢
        have hP : va_P (dC, dI) vwCl [(m0, .inr (11, oX11 ra y11))] H := hP
        have hD : va_D A [(m0, .inr (11, oX11 ra y11))] := hD
        refine W.widen (k := 0) (n := 0) (Nat.le_of_ble_eq_true rfl) (Nat.le_of_ble_eq_true rfl) ?_
        refine lv_aload_n hx hb dX11_numberNow_59 rfl (lv_at hl 0 rfl) ?_
        refine va_get (D := (dC, dI)) (ci := 11) (v := .int (y11 8)) (C := RX11) (T := TX11) (N := 61) hx hb hts hin11 hown hK hP 0 rfl rfl 22 (by decide) hw_0 (fun _ h9 => h9) rfl dX11_numberNow_60 ?_
        refine lv_if_ne (tgt := 73) hx hb dX11_numberNow_63 (by decide) (fun _ => ?_) (fun c9 => absurd c9 (iv_ne hq13 (iv_k (by decide) (by decide) : iv 0 0 0) (by decide)))
        refine lv_iload_n hx hb dX11_numberNow_73 rfl (lv_at hl 1 rfl) ?_
        have hP9 := hP.sub (ws' := [(m0, .inr (11, oX11 ra y11))]) [0] rfl
        have hD9 := hD.sub (ws' := [(m0, .inr (11, oX11 ra y11))]) [0] (by decide) rfl
        exact W.iret (v := 0) hx hb hr (fun t ht hW => ⟨⟨0, (), rfl, (iv_w (iv_k (by decide) (by decide) : iv 0 0 0) (by decide) (by decide)), y11, hq12, (show (y11 2).toInt = (x0 2).toInt from by omega), (show y11 3 = x0 3 from hq15), (show y11 1 = x0 1 from hq16), by rw [ht]; exact hP9, hD9⟩, hS.F ht⟩) hS.2.2 dX11_numberNow_74
      · have b17 : iv (-700) 2 z5 := iv_leL (Int32.not_lt.mp c7) b6 (iv_k (by decide) (by decide) : iv 2 2 2) (by decide) (by decide)
        refine lv_aload_n hx hb dX11_numberNow_38 rfl (lv_at hl 0 rfl) ?_
        refine va_get (D := (dC, dI)) (ci := 11) (v := .int (x0 5)) (C := RX11) (T := TX11) (N := 61) hx hb hts hin11 hown hK hP 0 rfl rfl 19 (by decide) hw_4 (fun _ h9 => h9) rfl dX11_numberNow_39 ?_
        refine lv_iload_n hx hb dX11_numberNow_42 rfl (lv_at hl 1 rfl) ?_
        refine lv_icmp_lt (tgt := 54) hx hb dX11_numberNow_43 (by decide) (fun c18 => ?_) (fun c18 => ?_)
        · have b19 : iv (-2147483648) (-1) (x0 5) := iv_ltL c18 (hX 5 : iv (-2147483648) 2147483647 (x0 5)) (iv_k (by decide) (by decide) : iv 0 0 0) (by decide) (by decide)
          refine lv_aload_n hx hb dX11_numberNow_54 rfl (lv_at hl 0 rfl) ?_
          refine lv_iconst (v := 2) hx hb dX11_numberNow_55 (by decide) ?_
          have hPc := hP.sub (ws' := [(m0, .inr (11, oX11 ra x0))]) [0] rfl
          have hDc := hD.sub (ws' := [(m0, .inr (11, oX11 ra x0))]) [0] (by decide) rfl
          have hFc := va_free (wc := [(m0, .inr (11, oX11 ra x0))]) hD hS hA [0] rfl
          refine va_callv (va_runV (As := [.int 2]) (rest := []) ⟨hx, hb, hml, hown, hts⟩ (s11_wrong l dC dI kB kI kJ kZ kC kS s.heap.size m0 ra x0 2 (hX) ((iv_w (iv_k (by decide) (by decide) : iv 2 2 2) (by decide) (by decide)))) (cwV 1 hts gX11_numberNow_X11_wrong rfl rfl rfl (by decide +kernel) ⟨Nat.le_of_ble_eq_true rfl, Nat.le_of_ble_eq_true rfl⟩) ⟨fun a U g mk q => by obtain ⟨q0, q1, qP, qE, qD⟩ := q; exact ⟨q0, q1, qP, kE_call qE, qD⟩, va_recv hK hP (ci := 11) (q0 := 0) rfl rfl, fun U hU hW => ⟨rfl, by rw [hU], by rw [hU]; exact hPc, kE_warm hW hE, hDc.weaken (fun _ _ _ _ => trivial)⟩⟩ rfl rfl hl.1 rfl (lv_room (Nat.le_of_ble_eq_true rfl)) dX11_numberNow_56 ⟨Nat.le_of_ble_eq_true rfl, Nat.le_of_ble_eq_true rfl⟩) hS (fun q _ h => hFc q h) hFc (fun u t H1 locs ht hvm w21 hB hz1 hk1 hS => ?_)
          obtain ⟨y22, hq23, hq24, hq25, hq26, hq27, hP1, hD1⟩ := hB
          rw [ht] at hP1
          try dsimp only at w21
          obtain ⟨hP, hD⟩ := va_join (wr := []) (w1 := [(m0, .inr (11, oX11 ra y22))]) hP hD [0] [] rfl rfl (by decide) (by decide) hk1 hFc hP1 hD1
          generalize H1 = H at hP hS ⊢
          have hP : va_P (dC, dI) vwCl [(m0, .inr (11, oX11 ra y22))] H := hP
          have hD : va_D A [(m0, .inr (11, oX11 ra y22))] := hD
          refine W.widen (k := 0) (n := 0) (Nat.le_of_ble_eq_true rfl) (Nat.le_of_ble_eq_true rfl) ?_
          refine lv_aload_n hx hb dX11_numberNow_59 rfl (lv_at hl 0 rfl) ?_
          refine va_get (D := (dC, dI)) (ci := 11) (v := .int (y22 8)) (C := RX11) (T := TX11) (N := 61) hx hb hts hin11 hown hK hP 0 rfl rfl 22 (by decide) hw_0 (fun _ h9 => h9) rfl dX11_numberNow_60 ?_
          refine lv_if_ne (tgt := 73) hx hb dX11_numberNow_63 (by decide) (fun _ => ?_) (fun c9 => absurd c9 (iv_ne hq24 (iv_k (by decide) (by decide) : iv 0 0 0) (by decide)))
          refine lv_iload_n hx hb dX11_numberNow_73 rfl (lv_at hl 1 rfl) ?_
          have hP9 := hP.sub (ws' := [(m0, .inr (11, oX11 ra y22))]) [0] rfl
          have hD9 := hD.sub (ws' := [(m0, .inr (11, oX11 ra y22))]) [0] (by decide) rfl
          exact W.iret (v := 0) hx hb hr (fun t ht hW => ⟨⟨0, (), rfl, (iv_w (iv_k (by decide) (by decide) : iv 0 0 0) (by decide) (by decide)), y22, hq23, (show (y22 2).toInt = (x0 2).toInt from by omega), (show y22 3 = x0 3 from hq26), (show y22 1 = x0 1 from hq27), by rw [ht]; exact hP9, hD9⟩, hS.F ht⟩) hS.2.2 dX11_numberNow_74
        · have b28 : iv 0 2147483647 (x0 5) := iv_leR (Int32.not_lt.mp c18) (iv_k (by decide) (by decide) : iv 0 0 0) (hX 5 : iv (-2147483648) 2147483647 (x0 5)) (by decide) (by decide)
          refine lv_aload_n hx hb dX11_numberNow_46 rfl (lv_at hl 0 rfl) ?_
          refine va_get (D := (dC, dI)) (ci := 11) (v := .int (x0 5)) (C := RX11) (T := TX11) (N := 61) hx hb hts hin11 hown hK hP 0 rfl rfl 19 (by decide) hw_4 (fun _ h9 => h9) rfl dX11_numberNow_47 ?_
          refine lv_iload_n hx hb dX11_numberNow_50 rfl (lv_at hl 2 rfl) ?_
          refine lv_icmp_le (tgt := 59) hx hb dX11_numberNow_51 (by decide) (fun c29 => ?_) (fun c29 => ?_)
          · have b30 : iv 0 15 (x0 5) := iv_leL c29 b28 (iv_k (by decide) (by decide) : iv 15 15 15) (by decide) (by decide)
            refine lv_aload_n hx hb dX11_numberNow_59 rfl (lv_at hl 0 rfl) ?_
            refine va_get (D := (dC, dI)) (ci := 11) (v := .int (x0 8)) (C := RX11) (T := TX11) (N := 61) hx hb hts hin11 hown hK hP 0 rfl rfl 22 (by decide) hw_0 (fun _ h9 => h9) rfl dX11_numberNow_60 ?_
            refine lv_if_ne (tgt := 73) hx hb dX11_numberNow_63 (by decide) (fun c9 => absurd (c1) c9) (fun _ => ?_)
            refine lv_aload_n hx hb dX11_numberNow_66 rfl (lv_at hl 0 rfl) ?_
            refine va_get (D := (dC, dI)) (ci := 11) (v := .int (x0 5)) (C := RX11) (T := TX11) (N := 61) hx hb hts hin11 hown hK hP 0 rfl rfl 19 (by decide) hw_4 (fun _ h9 => h9) rfl dX11_numberNow_67 ?_
            refine lv_goto (tgt := 74) hx hb dX11_numberNow_70 (by decide) ?_
            have hP9 := hP.sub (ws' := [(m0, .inr (11, oX11 ra x0))]) [0] rfl
            have hD9 := hD.sub (ws' := [(m0, .inr (11, oX11 ra x0))]) [0] (by decide) rfl
            exact W.iret (v := x0 5) hx hb hr (fun t ht hW => ⟨⟨x0 5, (), rfl, b30, x0, hX, (show (x0 2).toInt = (x0 2).toInt from by omega), (show x0 3 = x0 3 from rfl), (show x0 1 = x0 1 from rfl), by rw [ht]; exact hP9, hD9⟩, hS.F ht⟩) hS.2.2 dX11_numberNow_74
          · have b31 : iv 16 2147483647 (x0 5) := iv_ltR (Int32.not_le.mp c29) (iv_k (by decide) (by decide) : iv 15 15 15) b28 (by decide) (by decide)
            refine lv_aload_n hx hb dX11_numberNow_54 rfl (lv_at hl 0 rfl) ?_
            refine lv_iconst (v := 2) hx hb dX11_numberNow_55 (by decide) ?_
            have hPc := hP.sub (ws' := [(m0, .inr (11, oX11 ra x0))]) [0] rfl
            have hDc := hD.sub (ws' := [(m0, .inr (11, oX11 ra x0))]) [0] (by decide) rfl
            have hFc := va_free (wc := [(m0, .inr (11, oX11 ra x0))]) hD hS hA [0] rfl
            refine va_callv (va_runV (As := [.int 2]) (rest := []) ⟨hx, hb, hml, hown, hts⟩ (s11_wrong l dC dI kB kI kJ kZ kC kS s.heap.size m0 ra x0 2 (hX) ((iv_w (iv_k (by decide) (by decide) : iv 2 2 2) (by decide) (by decide)))) (cwV 1 hts gX11_numberNow_X11_wrong rfl rfl rfl (by decide +kernel) ⟨Nat.le_of_ble_eq_true rfl, Nat.le_of_ble_eq_true rfl⟩) ⟨fun a U g mk q => by obtain ⟨q0, q1, qP, qE, qD⟩ := q; exact ⟨q0, q1, qP, kE_call qE, qD⟩, va_recv hK hP (ci := 11) (q0 := 0) rfl rfl, fun U hU hW => ⟨rfl, by rw [hU], by rw [hU]; exact hPc, kE_warm hW hE, hDc.weaken (fun _ _ _ _ => trivial)⟩⟩ rfl rfl hl.1 rfl (lv_room (Nat.le_of_ble_eq_true rfl)) dX11_numberNow_56 ⟨Nat.le_of_ble_eq_true rfl, Nat.le_of_ble_eq_true rfl⟩) hS (fun q _ h => hFc q h) hFc (fun u t H1 locs ht hvm w33 hB hz1 hk1 hS => ?_)
            obtain ⟨y34, hq35, hq36, hq37, hq38, hq39, hP1, hD1⟩ := hB
            rw [ht] at hP1
            try dsimp only at w33
            obtain ⟨hP, hD⟩ := va_join (wr := []) (w1 := [(m0, .inr (11, oX11 ra y34))]) hP hD [0] [] rfl rfl (by decide) (by decide) hk1 hFc hP1 hD1
            generalize H1 = H at hP hS ⊢
            have hP : va_P (dC, dI) vwCl [(m0, .inr (11, oX11 ra y34))] H := hP
            have hD : va_D A [(m0, .inr (11, oX11 ra y34))] := hD
            refine W.widen (k := 0) (n := 0) (Nat.le_of_ble_eq_true rfl) (Nat.le_of_ble_eq_true rfl) ?_
            refine lv_aload_n hx hb dX11_numberNow_59 rfl (lv_at hl 0 rfl) ?_
            refine va_get (D := (dC, dI)) (ci := 11) (v := .int (y34 8)) (C := RX11) (T := TX11) (N := 61) hx hb hts hin11 hown hK hP 0 rfl rfl 22 (by decide) hw_0 (fun _ h9 => h9) rfl dX11_numberNow_60 ?_
            refine lv_if_ne (tgt := 73) hx hb dX11_numberNow_63 (by decide) (fun _ => ?_) (fun c9 => absurd c9 (iv_ne hq36 (iv_k (by decide) (by decide) : iv 0 0 0) (by decide)))
            refine lv_iload_n hx hb dX11_numberNow_73 rfl (lv_at hl 1 rfl) ?_
            have hP9 := hP.sub (ws' := [(m0, .inr (11, oX11 ra y34))]) [0] rfl
            have hD9 := hD.sub (ws' := [(m0, .inr (11, oX11 ra y34))]) [0] (by decide) rfl
            exact W.iret (v := 0) hx hb hr (fun t ht hW => ⟨⟨0, (), rfl, (iv_w (iv_k (by decide) (by decide) : iv 0 0 0) (by decide) (by decide)), y34, hq35, (show (y34 2).toInt = (x0 2).toInt from by omega), (show y34 3 = x0 3 from hq38), (show y34 1 = x0 1 from hq39), by rw [ht]; exact hP9, hD9⟩, hS.F ht⟩) hS.2.2 dX11_numberNow_74
    · refine lv_aload_n hx hb dX11_numberNow_17 rfl (lv_at hl 0 rfl) ?_
      refine lv_iconst (v := 1) hx hb dX11_numberNow_18 (by decide) ?_
      have hPc := hP.sub (ws' := [(m0, .inr (11, oX11 ra x0))]) [0] rfl
      have hDc := hD.sub (ws' := [(m0, .inr (11, oX11 ra x0))]) [0] (by decide) rfl
      have hFc := va_free (wc := [(m0, .inr (11, oX11 ra x0))]) hD hS hA [0] rfl
      refine va_callv (va_runV (As := [.int 1]) (rest := []) ⟨hx, hb, hml, hown, hts⟩ (s11_wrong l dC dI kB kI kJ kZ kC kS s.heap.size m0 ra x0 1 (hX) ((iv_w (iv_k (by decide) (by decide) : iv 1 1 1) (by decide) (by decide)))) (cwV 1 hts gX11_numberNow_X11_wrong rfl rfl rfl (by decide +kernel) ⟨Nat.le_of_ble_eq_true rfl, Nat.le_of_ble_eq_true rfl⟩) ⟨fun a U g mk q => by obtain ⟨q0, q1, qP, qE, qD⟩ := q; exact ⟨q0, q1, qP, kE_call qE, qD⟩, va_recv hK hP (ci := 11) (q0 := 0) rfl rfl, fun U hU hW => ⟨rfl, by rw [hU], by rw [hU]; exact hPc, kE_warm hW hE, hDc.weaken (fun _ _ _ _ => trivial)⟩⟩ rfl rfl hl.1 rfl (lv_room (Nat.le_of_ble_eq_true rfl)) dX11_numberNow_19 ⟨Nat.le_of_ble_eq_true rfl, Nat.le_of_ble_eq_true rfl⟩) hS (fun q _ h => hFc q h) hFc (fun u t H1 locs ht hvm w41 hB hz1 hk1 hS => ?_)
      obtain ⟨y42, hq43, hq44, hq45, hq46, hq47, hP1, hD1⟩ := hB
      rw [ht] at hP1
      try dsimp only at w41
      obtain ⟨hP, hD⟩ := va_join (wr := []) (w1 := [(m0, .inr (11, oX11 ra y42))]) hP hD [0] [] rfl rfl (by decide) (by decide) hk1 hFc hP1 hD1
      generalize H1 = H at hP hS ⊢
      have hP : va_P (dC, dI) vwCl [(m0, .inr (11, oX11 ra y42))] H := hP
      have hD : va_D A [(m0, .inr (11, oX11 ra y42))] := hD
      refine W.widen (k := 0) (n := 0) (Nat.le_of_ble_eq_true rfl) (Nat.le_of_ble_eq_true rfl) ?_
      refine lv_goto (tgt := 59) hx hb dX11_numberNow_22 (by decide) ?_
      refine lv_aload_n hx hb dX11_numberNow_59 rfl (lv_at hl 0 rfl) ?_
      refine va_get (D := (dC, dI)) (ci := 11) (v := .int (y42 8)) (C := RX11) (T := TX11) (N := 61) hx hb hts hin11 hown hK hP 0 rfl rfl 22 (by decide) hw_0 (fun _ h9 => h9) rfl dX11_numberNow_60 ?_
      refine lv_if_ne (tgt := 73) hx hb dX11_numberNow_63 (by decide) (fun _ => ?_) (fun c9 => absurd c9 (iv_ne hq44 (iv_k (by decide) (by decide) : iv 0 0 0) (by decide)))
      refine lv_iload_n hx hb dX11_numberNow_73 rfl (lv_at hl 1 rfl) ?_
      have hP9 := hP.sub (ws' := [(m0, .inr (11, oX11 ra y42))]) [0] rfl
      have hD9 := hD.sub (ws' := [(m0, .inr (11, oX11 ra y42))]) [0] (by decide) rfl
      exact W.iret (v := 0) hx hb hr (fun t ht hW => ⟨⟨0, (), rfl, (iv_w (iv_k (by decide) (by decide) : iv 0 0 0) (by decide) (by decide)), y42, hq43, (show (y42 2).toInt = (x0 2).toInt from by omega), (show y42 3 = x0 3 from hq46), (show y42 1 = x0 1 from hq47), by rw [ht]; exact hP9, hD9⟩, hS.F ht⟩) hS.2.2 dX11_numberNow_74
  · have b48 : iv 1 5 (x0 8) := iv_neLo c1 (hX 8 : iv 0 5 (x0 8)) (iv_k (by decide) (by decide) : iv 0 0 0) (by decide) (by decide)
    refine lv_iload_n hx hb dX11_numberNow_7 rfl (lv_at hl 1 rfl) ?_
    have hP9 := hP.sub (ws' := [(m0, .inr (11, oX11 ra x0))]) [0] rfl
    have hD9 := hD.sub (ws' := [(m0, .inr (11, oX11 ra x0))]) [0] (by decide) rfl
    exact W.iret (v := 0) hx hb hr (fun t ht hW => ⟨⟨0, (), rfl, (iv_w (iv_k (by decide) (by decide) : iv 0 0 0) (by decide) (by decide)), x0, hX, (show (x0 2).toInt = (x0 2).toInt from by omega), (show x0 3 = x0 3 from rfl), (show x0 1 = x0 1 from rfl), by rw [ht]; exact hP9, hD9⟩, hS.F ht⟩) hS.2.2 dX11_numberNow_8
def rm_s11_numberNow_1_60 : Room := { frames := 1, cells := 0, slots := 0, locals := 21 }
set_option maxHeartbeats 4000000 in
set_option maxRecDepth 100000 in
theorem s11_numberNow_1_60 (l : Launch) (dC : Nat → ClassId) (dI : Nat → Nat → Nat) (kB kI kJ kZ kC kS : ClassId) (sz : Nat) (m0 : Nat) (ra : Nat → Nat) (x0 : Nat → Int32) (hX : fI lX11 hX11 x0) : Met l yX11_numberNow wsX11_numberNow rm_s11_numberNow_1_60 (va_Pc [.ref m0, .int 1, .int 60] (fun U => U.heap.size = sz ∧ va_P (dC, dI) vwCl [(m0, .inr (11, oX11 ra x0))] U.heap ∧ kE dC dI kB kI kJ kZ kC kS U ∧ va_D (fun _ => True) [(m0, .inr (11, oX11 ra x0))])) (va_Qi (fun (r : Int32) (_ : Unit) => iv 1 60 r) (fun _ t => ∃ (x0' : Nat → Int32), fI lX11 hX11 x0' ∧ ((x0' 2).toInt = (x0 2).toInt) ∧ (x0' 3 = x0 3) ∧ (x0' 1 = x0 1) ∧ va_P (dC, dI) vwCl [(m0, .inr (11, oX11 ra x0'))] t.heap ∧ va_D (va_A [(m0, .inr (11, oX11 ra x0))] sz) [(m0, .inr (11, oX11 ra x0'))]) (va_A [(m0, .inr (11, oX11 ra x0))] sz)) 0 0 (va_A [(m0, .inr (11, oX11 ra x0))] sz) := by
  refine Met.ofW (cc := cX11_numberNow) (maxL := 3) (ret := (some .int)) (by decide) rfl ?_
  intro p e s m args0 below meth c s₁ B hml hv
  obtain ⟨hargs, hsz, hP, hE, hD0⟩ := hv
  have hx := B.exec
  have hb := B.bytes
  have hr := B.returns
  have hts := atoms_spec (ws := wsX11_numberNow) B.pre
  have hown : s.vm.findClass RX11 = some m.cls := findClass_of_methodNamed B.named
  have hlocks := B.notSynchronized
  have hK := hE.1
  have hin11 : ∀ w ∈ wsX110, w ∈ wsX11_numberNow := fun _ h9 => List.mem_cons_of_mem _ (List.mem_append_right _ h9)
  have hw_0 := hts (.fieldLink RX11 184 "PathProberModel" "bad" "I") (List.mem_of_getElem? (i := 1) (by decide +kernel))
  have hw_1 := hts (.fieldLink RX11 161 "PathProberModel" "token" "I") (List.mem_of_getElem? (i := 2) (by decide +kernel))
  have hw_2 := hts (.fieldLink RX11 181 "PathProberModel" "stops" "I") (List.mem_of_getElem? (i := 3) (by decide +kernel))
  have hw_3 := hts (.fieldLink RX11 158 "PathProberModel" "begins" "I") (List.mem_of_getElem? (i := 4) (by decide +kernel))
  have hw_4 := hts (.fieldLink RX11 171 "PathProberModel" "number" "I") (List.mem_of_getElem? (i := 5) (by decide +kernel))
  subst hsz
  have hD := hD0.self (sz := s.heap.size)
  generalize hAe : va_A [(m0, .inr (11, oX11 ra x0))] s.heap.size = A at hD ⊢
  have hA : ∀ q : Nat, s.heap.size ≤ q → A q := fun q h => by rw [← hAe]; exact Or.inr h
  have hS : va_S A s.heap s.heap [] := va_S.rf
  have hP : va_P (dC, dI) vwCl [(m0, .inr (11, oX11 ra x0))] s.heap := hP
  have hl := lv_entry ([.ref m0, .int 1, .int 60]) (n := 3) (Nat.le_of_ble_eq_true rfl)
  have hla : entryFrame m args0 3 = entryFrame m ([.ref m0, .int 1, .int 60] : List Value).toArray 3 := by rw [hargs]
  rw [hla, lg_entry_eq]
  generalize (lg_sl ([.ref m0, .int 1, .int 60]) ++ List.replicate (3 - (lg_sl ([.ref m0, .int 1, .int 60])).length) Slot.unset).toArray = ls at hl ⊢
  have hl : lv_has ls 3 [(0, .ref m0), (1, .int 1), (2, .int 60)] := hl
  refine lv_aload_n hx hb dX11_numberNow_0 rfl (lv_at hl 0 rfl) ?_
  refine va_get (D := (dC, dI)) (ci := 11) (v := .int (x0 8)) (C := RX11) (T := TX11) (N := 61) hx hb hts hin11 hown hK hP 0 rfl rfl 22 (by decide) hw_0 (fun _ h9 => h9) rfl dX11_numberNow_1 ?_
  refine lv_if_eq (tgt := 9) hx hb dX11_numberNow_4 (by decide) (fun c1 => ?_) (fun c1 => ?_)
  · have b2 : iv 0 0 (x0 8) := iv_eqL c1 (iv_k (by decide) (by decide) : iv 0 0 0)
    refine lv_aload_n hx hb dX11_numberNow_9 rfl (lv_at hl 0 rfl) ?_
    refine va_get (D := (dC, dI)) (ci := 11) (v := .int (x0 4)) (C := RX11) (T := TX11) (N := 61) hx hb hts hin11 hown hK hP 0 rfl rfl 18 (by decide) hw_1 (fun _ h9 => h9) rfl dX11_numberNow_10 ?_
    refine lv_iconst (v := 2) hx hb dX11_numberNow_13 (by decide) ?_
    refine lv_icmp_eq (tgt := 25) hx hb dX11_numberNow_14 (by decide) (fun c3 => ?_) (fun c3 => ?_)
    · have b4 : iv 2 2 (x0 4) := iv_eqL c3 (iv_k (by decide) (by decide) : iv 2 2 2)
      refine lv_aload_n hx hb dX11_numberNow_25 rfl (lv_at hl 0 rfl) ?_
      refine va_get (D := (dC, dI)) (ci := 11) (v := .int (x0 7)) (C := RX11) (T := TX11) (N := 61) hx hb hts hin11 hown hK hP 0 rfl rfl 21 (by decide) hw_2 (fun _ h9 => h9) rfl dX11_numberNow_26 ?_
      refine lv_aload_n hx hb dX11_numberNow_29 rfl (lv_at hl 0 rfl) ?_
      refine va_get (D := (dC, dI)) (ci := 11) (v := .int (x0 6)) (C := RX11) (T := TX11) (N := 61) hx hb hts hin11 hown hK hP 0 rfl rfl 20 (by decide) hw_3 (fun _ h9 => h9) rfl dX11_numberNow_30 ?_
      refine lv_isub hx hb dX11_numberNow_33 ?_
      refine iv_top (a := (-700)) (b := 700) (iv_sub (hX 7 : iv 0 700 (x0 7)) (hX 6 : iv 0 700 (x0 6)) (by decide) (by decide) (by decide) (by decide)) (fun z5 b6 => ?_)
      refine lv_iconst (v := 2) hx hb dX11_numberNow_34 (by decide) ?_
      refine lv_icmp_gt (tgt := 54) hx hb dX11_numberNow_35 (by decide) (fun c7 => ?_) (fun c7 => ?_)
      · have b8 : iv 3 700 z5 := iv_ltR c7 (iv_k (by decide) (by decide) : iv 2 2 2) b6 (by decide) (by decide)
        refine lv_aload_n hx hb dX11_numberNow_54 rfl (lv_at hl 0 rfl) ?_
        refine lv_iconst (v := 2) hx hb dX11_numberNow_55 (by decide) ?_
        have hPc := hP.sub (ws' := [(m0, .inr (11, oX11 ra x0))]) [0] rfl
        have hDc := hD.sub (ws' := [(m0, .inr (11, oX11 ra x0))]) [0] (by decide) rfl
        have hFc := va_free (wc := [(m0, .inr (11, oX11 ra x0))]) hD hS hA [0] rfl
        refine va_callv (va_runV (As := [.int 2]) (rest := []) ⟨hx, hb, hml, hown, hts⟩ (s11_wrong l dC dI kB kI kJ kZ kC kS s.heap.size m0 ra x0 2 (hX) ((iv_w (iv_k (by decide) (by decide) : iv 2 2 2) (by decide) (by decide)))) (cwV 1 hts gX11_numberNow_X11_wrong rfl rfl rfl (by decide +kernel) ⟨Nat.le_of_ble_eq_true rfl, Nat.le_of_ble_eq_true rfl⟩) ⟨fun a U g mk q => by obtain ⟨q0, q1, qP, qE, qD⟩ := q; exact ⟨q0, q1, qP, kE_call qE, qD⟩, va_recv hK hP (ci := 11) (q0 := 0) rfl rfl, fun U hU hW => ⟨rfl, by rw [hU], by rw [hU]; exact hPc, kE_warm hW hE, hDc.weaken (fun _ _ _ _ => trivial)⟩⟩ rfl rfl hl.1 rfl (lv_room (Nat.le_of_ble_eq_true rfl)) dX11_numberNow_56 ⟨Nat.le_of_ble_eq_true rfl, Nat.le_of_ble_eq_true rfl⟩) hS (fun q _ h => hFc q h) hFc (fun u t H1 locs ht hvm w10 hB hz1 hk1 hS => ?_)
        obtain ⟨y11, hq12, hq13, hq14, hq15, hq16, hP1, hD1⟩ := hB
        rw [ht] at hP1
        try dsimp only at w10
        obtain ⟨hP, hD⟩ := va_join (wr := []) (w1 := [(m0, .inr (11, oX11 ra y11))]) hP hD [0] [] rfl rfl (by decide) (by decide) hk1 hFc hP1 hD1
        generalize H1 = H at hP hS ⊢
        have hP : va_P (dC, dI) vwCl [(m0, .inr (11, oX11 ra y11))] H := hP
        have hD : va_D A [(m0, .inr (11, oX11 ra y11))] := hD
        refine W.widen (k := 0) (n := 0) (Nat.le_of_ble_eq_true rfl) (Nat.le_of_ble_eq_true rfl) ?_
        refine lv_aload_n hx hb dX11_numberNow_59 rfl (lv_at hl 0 rfl) ?_
        refine va_get (D := (dC, dI)) (ci := 11) (v := .int (y11 8)) (C := RX11) (T := TX11) (N := 61) hx hb hts hin11 hown hK hP 0 rfl rfl 22 (by decide) hw_0 (fun _ h9 => h9) rfl dX11_numberNow_60 ?_
        refine lv_if_ne (tgt := 73) hx hb dX11_numberNow_63 (by decide) (fun _ => ?_) (fun c9 => absurd c9 (iv_ne hq13 (iv_k (by decide) (by decide) : iv 0 0 0) (by decide)))
        refine lv_iload_n hx hb dX11_numberNow_73 rfl (lv_at hl 1 rfl) ?_
        have hP9 := hP.sub (ws' := [(m0, .inr (11, oX11 ra y11))]) [0] rfl
        have hD9 := hD.sub (ws' := [(m0, .inr (11, oX11 ra y11))]) [0] (by decide) rfl
        exact W.iret (v := 1) hx hb hr (fun t ht hW => ⟨⟨1, (), rfl, (iv_w (iv_k (by decide) (by decide) : iv 1 1 1) (by decide) (by decide)), y11, hq12, (show (y11 2).toInt = (x0 2).toInt from by omega), (show y11 3 = x0 3 from hq15), (show y11 1 = x0 1 from hq16), by rw [ht]; exact hP9, hD9⟩, hS.F ht⟩) hS.2.2 dX11_numberNow_74
      · have b17 : iv (-700) 2 z5 := iv_leL (Int32.not_lt.mp c7) b6 (iv_k (by decide) (by decide) : iv 2 2 2) (by decide) (by decide)
        refine lv_aload_n hx hb dX11_numberNow_38 rfl (lv_at hl 0 rfl) ?_
        refine va_get (D := (dC, dI)) (ci := 11) (v := .int (x0 5)) (C := RX11) (T := TX11) (N := 61) hx hb hts hin11 hown hK hP 0 rfl rfl 19 (by decide) hw_4 (fun _ h9 => h9) rfl dX11_numberNow_39 ?_
        refine lv_iload_n hx hb dX11_numberNow_42 rfl (lv_at hl 1 rfl) ?_
        refine lv_icmp_lt (tgt := 54) hx hb dX11_numberNow_43 (by decide) (fun c18 => ?_) (fun c18 => ?_)
        · have b19 : iv (-2147483648) 0 (x0 5) := iv_ltL c18 (hX 5 : iv (-2147483648) 2147483647 (x0 5)) (iv_k (by decide) (by decide) : iv 1 1 1) (by decide) (by decide)
          refine lv_aload_n hx hb dX11_numberNow_54 rfl (lv_at hl 0 rfl) ?_
          refine lv_iconst (v := 2) hx hb dX11_numberNow_55 (by decide) ?_
          have hPc := hP.sub (ws' := [(m0, .inr (11, oX11 ra x0))]) [0] rfl
          have hDc := hD.sub (ws' := [(m0, .inr (11, oX11 ra x0))]) [0] (by decide) rfl
          have hFc := va_free (wc := [(m0, .inr (11, oX11 ra x0))]) hD hS hA [0] rfl
          refine va_callv (va_runV (As := [.int 2]) (rest := []) ⟨hx, hb, hml, hown, hts⟩ (s11_wrong l dC dI kB kI kJ kZ kC kS s.heap.size m0 ra x0 2 (hX) ((iv_w (iv_k (by decide) (by decide) : iv 2 2 2) (by decide) (by decide)))) (cwV 1 hts gX11_numberNow_X11_wrong rfl rfl rfl (by decide +kernel) ⟨Nat.le_of_ble_eq_true rfl, Nat.le_of_ble_eq_true rfl⟩) ⟨fun a U g mk q => by obtain ⟨q0, q1, qP, qE, qD⟩ := q; exact ⟨q0, q1, qP, kE_call qE, qD⟩, va_recv hK hP (ci := 11) (q0 := 0) rfl rfl, fun U hU hW => ⟨rfl, by rw [hU], by rw [hU]; exact hPc, kE_warm hW hE, hDc.weaken (fun _ _ _ _ => trivial)⟩⟩ rfl rfl hl.1 rfl (lv_room (Nat.le_of_ble_eq_true rfl)) dX11_numberNow_56 ⟨Nat.le_of_ble_eq_true rfl, Nat.le_of_ble_eq_true rfl⟩) hS (fun q _ h => hFc q h) hFc (fun u t H1 locs ht hvm w21 hB hz1 hk1 hS => ?_)
          obtain ⟨y22, hq23, hq24, hq25, hq26, hq27, hP1, hD1⟩ := hB
          rw [ht] at hP1
          try dsimp only at w21
          obtain ⟨hP, hD⟩ := va_join (wr := []) (w1 := [(m0, .inr (11, oX11 ra y22))]) hP hD [0] [] rfl rfl (by decide) (by decide) hk1 hFc hP1 hD1
          generalize H1 = H at hP hS ⊢
          have hP : va_P (dC, dI) vwCl [(m0, .inr (11, oX11 ra y22))] H := hP
          have hD : va_D A [(m0, .inr (11, oX11 ra y22))] := hD
          refine W.widen (k := 0) (n := 0) (Nat.le_of_ble_eq_true rfl) (Nat.le_of_ble_eq_true rfl) ?_
          refine lv_aload_n hx hb dX11_numberNow_59 rfl (lv_at hl 0 rfl) ?_
          refine va_get (D := (dC, dI)) (ci := 11) (v := .int (y22 8)) (C := RX11) (T := TX11) (N := 61) hx hb hts hin11 hown hK hP 0 rfl rfl 22 (by decide) hw_0 (fun _ h9 => h9) rfl dX11_numberNow_60 ?_
          refine lv_if_ne (tgt := 73) hx hb dX11_numberNow_63 (by decide) (fun _ => ?_) (fun c9 => absurd c9 (iv_ne hq24 (iv_k (by decide) (by decide) : iv 0 0 0) (by decide)))
          refine lv_iload_n hx hb dX11_numberNow_73 rfl (lv_at hl 1 rfl) ?_
          have hP9 := hP.sub (ws' := [(m0, .inr (11, oX11 ra y22))]) [0] rfl
          have hD9 := hD.sub (ws' := [(m0, .inr (11, oX11 ra y22))]) [0] (by decide) rfl
          exact W.iret (v := 1) hx hb hr (fun t ht hW => ⟨⟨1, (), rfl, (iv_w (iv_k (by decide) (by decide) : iv 1 1 1) (by decide) (by decide)), y22, hq23, (show (y22 2).toInt = (x0 2).toInt from by omega), (show y22 3 = x0 3 from hq26), (show y22 1 = x0 1 from hq27), by rw [ht]; exact hP9, hD9⟩, hS.F ht⟩) hS.2.2 dX11_numberNow_74
        · have b28 : iv 1 2147483647 (x0 5) := iv_leR (Int32.not_lt.mp c18) (iv_k (by decide) (by decide) : iv 1 1 1) (hX 5 : iv (-2147483648) 2147483647 (x0 5)) (by decide) (by decide)
          refine lv_aload_n hx hb dX11_numberNow_46 rfl (lv_at hl 0 rfl) ?_
          refine va_get (D := (dC, dI)) (ci := 11) (v := .int (x0 5)) (C := RX11) (T := TX11) (N := 61) hx hb hts hin11 hown hK hP 0 rfl rfl 19 (by decide) hw_4 (fun _ h9 => h9) rfl dX11_numberNow_47 ?_
          refine lv_iload_n hx hb dX11_numberNow_50 rfl (lv_at hl 2 rfl) ?_
          refine lv_icmp_le (tgt := 59) hx hb dX11_numberNow_51 (by decide) (fun c29 => ?_) (fun c29 => ?_)
          · have b30 : iv 1 60 (x0 5) := iv_leL c29 b28 (iv_k (by decide) (by decide) : iv 60 60 60) (by decide) (by decide)
            refine lv_aload_n hx hb dX11_numberNow_59 rfl (lv_at hl 0 rfl) ?_
            refine va_get (D := (dC, dI)) (ci := 11) (v := .int (x0 8)) (C := RX11) (T := TX11) (N := 61) hx hb hts hin11 hown hK hP 0 rfl rfl 22 (by decide) hw_0 (fun _ h9 => h9) rfl dX11_numberNow_60 ?_
            refine lv_if_ne (tgt := 73) hx hb dX11_numberNow_63 (by decide) (fun c9 => absurd (c1) c9) (fun _ => ?_)
            refine lv_aload_n hx hb dX11_numberNow_66 rfl (lv_at hl 0 rfl) ?_
            refine va_get (D := (dC, dI)) (ci := 11) (v := .int (x0 5)) (C := RX11) (T := TX11) (N := 61) hx hb hts hin11 hown hK hP 0 rfl rfl 19 (by decide) hw_4 (fun _ h9 => h9) rfl dX11_numberNow_67 ?_
            refine lv_goto (tgt := 74) hx hb dX11_numberNow_70 (by decide) ?_
            have hP9 := hP.sub (ws' := [(m0, .inr (11, oX11 ra x0))]) [0] rfl
            have hD9 := hD.sub (ws' := [(m0, .inr (11, oX11 ra x0))]) [0] (by decide) rfl
            exact W.iret (v := x0 5) hx hb hr (fun t ht hW => ⟨⟨x0 5, (), rfl, b30, x0, hX, (show (x0 2).toInt = (x0 2).toInt from by omega), (show x0 3 = x0 3 from rfl), (show x0 1 = x0 1 from rfl), by rw [ht]; exact hP9, hD9⟩, hS.F ht⟩) hS.2.2 dX11_numberNow_74
          · have b31 : iv 61 2147483647 (x0 5) := iv_ltR (Int32.not_le.mp c29) (iv_k (by decide) (by decide) : iv 60 60 60) b28 (by decide) (by decide)
            refine lv_aload_n hx hb dX11_numberNow_54 rfl (lv_at hl 0 rfl) ?_
            refine lv_iconst (v := 2) hx hb dX11_numberNow_55 (by decide) ?_
            have hPc := hP.sub (ws' := [(m0, .inr (11, oX11 ra x0))]) [0] rfl
            have hDc := hD.sub (ws' := [(m0, .inr (11, oX11 ra x0))]) [0] (by decide) rfl
            have hFc := va_free (wc := [(m0, .inr (11, oX11 ra x0))]) hD hS hA [0] rfl
            refine va_callv (va_runV (As := [.int 2]) (rest := []) ⟨hx, hb, hml, hown, hts⟩ (s11_wrong l dC dI kB kI kJ kZ kC kS s.heap.size m0 ra x0 2 (hX) ((iv_w (iv_k (by decide) (by decide) : iv 2 2 2) (by decide) (by decide)))) (cwV 1 hts gX11_numberNow_X11_wrong rfl rfl rfl (by decide +kernel) ⟨Nat.le_of_ble_eq_true rfl, Nat.le_of_ble_eq_true rfl⟩) ⟨fun a U g mk q => by obtain ⟨q0, q1, qP, qE, qD⟩ := q; exact ⟨q0, q1, qP, kE_call qE, qD⟩, va_recv hK hP (ci := 11) (q0 := 0) rfl rfl, fun U hU hW => ⟨rfl, by rw [hU], by rw [hU]; exact hPc, kE_warm hW hE, hDc.weaken (fun _ _ _ _ => trivial)⟩⟩ rfl rfl hl.1 rfl (lv_room (Nat.le_of_ble_eq_true rfl)) dX11_numberNow_56 ⟨Nat.le_of_ble_eq_true rfl, Nat.le_of_ble_eq_true rfl⟩) hS (fun q _ h => hFc q h) hFc (fun u t H1 locs ht hvm w33 hB hz1 hk1 hS => ?_)
            obtain ⟨y34, hq35, hq36, hq37, hq38, hq39, hP1, hD1⟩ := hB
            rw [ht] at hP1
            try dsimp only at w33
            obtain ⟨hP, hD⟩ := va_join (wr := []) (w1 := [(m0, .inr (11, oX11 ra y34))]) hP hD [0] [] rfl rfl (by decide) (by decide) hk1 hFc hP1 hD1
            generalize H1 = H at hP hS ⊢
            have hP : va_P (dC, dI) vwCl [(m0, .inr (11, oX11 ra y34))] H := hP
            have hD : va_D A [(m0, .inr (11, oX11 ra y34))] := hD
            refine W.widen (k := 0) (n := 0) (Nat.le_of_ble_eq_true rfl) (Nat.le_of_ble_eq_true rfl) ?_
            refine lv_aload_n hx hb dX11_numberNow_59 rfl (lv_at hl 0 rfl) ?_
            refine va_get (D := (dC, dI)) (ci := 11) (v := .int (y34 8)) (C := RX11) (T := TX11) (N := 61) hx hb hts hin11 hown hK hP 0 rfl rfl 22 (by decide) hw_0 (fun _ h9 => h9) rfl dX11_numberNow_60 ?_
            refine lv_if_ne (tgt := 73) hx hb dX11_numberNow_63 (by decide) (fun _ => ?_) (fun c9 => absurd c9 (iv_ne hq36 (iv_k (by decide) (by decide) : iv 0 0 0) (by decide)))
            refine lv_iload_n hx hb dX11_numberNow_73 rfl (lv_at hl 1 rfl) ?_
            have hP9 := hP.sub (ws' := [(m0, .inr (11, oX11 ra y34))]) [0] rfl
            have hD9 := hD.sub (ws' := [(m0, .inr (11, oX11 ra y34))]) [0] (by decide) rfl
            exact W.iret (v := 1) hx hb hr (fun t ht hW => ⟨⟨1, (), rfl, (iv_w (iv_k (by decide) (by decide) : iv 1 1 1) (by decide) (by decide)), y34, hq35, (show (y34 2).toInt = (x0 2).toInt from by omega), (show y34 3 = x0 3 from hq38), (show y34 1 = x0 1 from hq39), by rw [ht]; exact hP9, hD9⟩, hS.F ht⟩) hS.2.2 dX11_numberNow_74
    · refine lv_aload_n hx hb dX11_numberNow_17 rfl (lv_at hl 0 rfl) ?_
      refine lv_iconst (v := 1) hx hb dX11_numberNow_18 (by decide) ?_
      have hPc := hP.sub (ws' := [(m0, .inr (11, oX11 ra x0))]) [0] rfl
      have hDc := hD.sub (ws' := [(m0, .inr (11, oX11 ra x0))]) [0] (by decide) rfl
      have hFc := va_free (wc := [(m0, .inr (11, oX11 ra x0))]) hD hS hA [0] rfl
      refine va_callv (va_runV (As := [.int 1]) (rest := []) ⟨hx, hb, hml, hown, hts⟩ (s11_wrong l dC dI kB kI kJ kZ kC kS s.heap.size m0 ra x0 1 (hX) ((iv_w (iv_k (by decide) (by decide) : iv 1 1 1) (by decide) (by decide)))) (cwV 1 hts gX11_numberNow_X11_wrong rfl rfl rfl (by decide +kernel) ⟨Nat.le_of_ble_eq_true rfl, Nat.le_of_ble_eq_true rfl⟩) ⟨fun a U g mk q => by obtain ⟨q0, q1, qP, qE, qD⟩ := q; exact ⟨q0, q1, qP, kE_call qE, qD⟩, va_recv hK hP (ci := 11) (q0 := 0) rfl rfl, fun U hU hW => ⟨rfl, by rw [hU], by rw [hU]; exact hPc, kE_warm hW hE, hDc.weaken (fun _ _ _ _ => trivial)⟩⟩ rfl rfl hl.1 rfl (lv_room (Nat.le_of_ble_eq_true rfl)) dX11_numberNow_19 ⟨Nat.le_of_ble_eq_true rfl, Nat.le_of_ble_eq_true rfl⟩) hS (fun q _ h => hFc q h) hFc (fun u t H1 locs ht hvm w41 hB hz1 hk1 hS => ?_)
      obtain ⟨y42, hq43, hq44, hq45, hq46, hq47, hP1, hD1⟩ := hB
      rw [ht] at hP1
      try dsimp only at w41
      obtain ⟨hP, hD⟩ := va_join (wr := []) (w1 := [(m0, .inr (11, oX11 ra y42))]) hP hD [0] [] rfl rfl (by decide) (by decide) hk1 hFc hP1 hD1
      generalize H1 = H at hP hS ⊢
      have hP : va_P (dC, dI) vwCl [(m0, .inr (11, oX11 ra y42))] H := hP
      have hD : va_D A [(m0, .inr (11, oX11 ra y42))] := hD
      refine W.widen (k := 0) (n := 0) (Nat.le_of_ble_eq_true rfl) (Nat.le_of_ble_eq_true rfl) ?_
      refine lv_goto (tgt := 59) hx hb dX11_numberNow_22 (by decide) ?_
      refine lv_aload_n hx hb dX11_numberNow_59 rfl (lv_at hl 0 rfl) ?_
      refine va_get (D := (dC, dI)) (ci := 11) (v := .int (y42 8)) (C := RX11) (T := TX11) (N := 61) hx hb hts hin11 hown hK hP 0 rfl rfl 22 (by decide) hw_0 (fun _ h9 => h9) rfl dX11_numberNow_60 ?_
      refine lv_if_ne (tgt := 73) hx hb dX11_numberNow_63 (by decide) (fun _ => ?_) (fun c9 => absurd c9 (iv_ne hq44 (iv_k (by decide) (by decide) : iv 0 0 0) (by decide)))
      refine lv_iload_n hx hb dX11_numberNow_73 rfl (lv_at hl 1 rfl) ?_
      have hP9 := hP.sub (ws' := [(m0, .inr (11, oX11 ra y42))]) [0] rfl
      have hD9 := hD.sub (ws' := [(m0, .inr (11, oX11 ra y42))]) [0] (by decide) rfl
      exact W.iret (v := 1) hx hb hr (fun t ht hW => ⟨⟨1, (), rfl, (iv_w (iv_k (by decide) (by decide) : iv 1 1 1) (by decide) (by decide)), y42, hq43, (show (y42 2).toInt = (x0 2).toInt from by omega), (show y42 3 = x0 3 from hq46), (show y42 1 = x0 1 from hq47), by rw [ht]; exact hP9, hD9⟩, hS.F ht⟩) hS.2.2 dX11_numberNow_74
  · have b48 : iv 1 5 (x0 8) := iv_neLo c1 (hX 8 : iv 0 5 (x0 8)) (iv_k (by decide) (by decide) : iv 0 0 0) (by decide) (by decide)
    refine lv_iload_n hx hb dX11_numberNow_7 rfl (lv_at hl 1 rfl) ?_
    have hP9 := hP.sub (ws' := [(m0, .inr (11, oX11 ra x0))]) [0] rfl
    have hD9 := hD.sub (ws' := [(m0, .inr (11, oX11 ra x0))]) [0] (by decide) rfl
    exact W.iret (v := 1) hx hb hr (fun t ht hW => ⟨⟨1, (), rfl, (iv_w (iv_k (by decide) (by decide) : iv 1 1 1) (by decide) (by decide)), x0, hX, (show (x0 2).toInt = (x0 2).toInt from by omega), (show x0 3 = x0 3 from rfl), (show x0 1 = x0 1 from rfl), by rw [ht]; exact hP9, hD9⟩, hS.F ht⟩) hS.2.2 dX11_numberNow_8
def rm_s11_numberNow_1_50 : Room := { frames := 1, cells := 0, slots := 0, locals := 21 }
set_option maxHeartbeats 4000000 in
set_option maxRecDepth 100000 in
theorem s11_numberNow_1_50 (l : Launch) (dC : Nat → ClassId) (dI : Nat → Nat → Nat) (kB kI kJ kZ kC kS : ClassId) (sz : Nat) (m0 : Nat) (ra : Nat → Nat) (x0 : Nat → Int32) (hX : fI lX11 hX11 x0) : Met l yX11_numberNow wsX11_numberNow rm_s11_numberNow_1_50 (va_Pc [.ref m0, .int 1, .int 50] (fun U => U.heap.size = sz ∧ va_P (dC, dI) vwCl [(m0, .inr (11, oX11 ra x0))] U.heap ∧ kE dC dI kB kI kJ kZ kC kS U ∧ va_D (fun _ => True) [(m0, .inr (11, oX11 ra x0))])) (va_Qi (fun (r : Int32) (_ : Unit) => iv 1 50 r) (fun _ t => ∃ (x0' : Nat → Int32), fI lX11 hX11 x0' ∧ ((x0' 2).toInt = (x0 2).toInt) ∧ (x0' 3 = x0 3) ∧ (x0' 1 = x0 1) ∧ va_P (dC, dI) vwCl [(m0, .inr (11, oX11 ra x0'))] t.heap ∧ va_D (va_A [(m0, .inr (11, oX11 ra x0))] sz) [(m0, .inr (11, oX11 ra x0'))]) (va_A [(m0, .inr (11, oX11 ra x0))] sz)) 0 0 (va_A [(m0, .inr (11, oX11 ra x0))] sz) := by
  refine Met.ofW (cc := cX11_numberNow) (maxL := 3) (ret := (some .int)) (by decide) rfl ?_
  intro p e s m args0 below meth c s₁ B hml hv
  obtain ⟨hargs, hsz, hP, hE, hD0⟩ := hv
  have hx := B.exec
  have hb := B.bytes
  have hr := B.returns
  have hts := atoms_spec (ws := wsX11_numberNow) B.pre
  have hown : s.vm.findClass RX11 = some m.cls := findClass_of_methodNamed B.named
  have hlocks := B.notSynchronized
  have hK := hE.1
  have hin11 : ∀ w ∈ wsX110, w ∈ wsX11_numberNow := fun _ h9 => List.mem_cons_of_mem _ (List.mem_append_right _ h9)
  have hw_0 := hts (.fieldLink RX11 184 "PathProberModel" "bad" "I") (List.mem_of_getElem? (i := 1) (by decide +kernel))
  have hw_1 := hts (.fieldLink RX11 161 "PathProberModel" "token" "I") (List.mem_of_getElem? (i := 2) (by decide +kernel))
  have hw_2 := hts (.fieldLink RX11 181 "PathProberModel" "stops" "I") (List.mem_of_getElem? (i := 3) (by decide +kernel))
  have hw_3 := hts (.fieldLink RX11 158 "PathProberModel" "begins" "I") (List.mem_of_getElem? (i := 4) (by decide +kernel))
  have hw_4 := hts (.fieldLink RX11 171 "PathProberModel" "number" "I") (List.mem_of_getElem? (i := 5) (by decide +kernel))
  subst hsz
  have hD := hD0.self (sz := s.heap.size)
  generalize hAe : va_A [(m0, .inr (11, oX11 ra x0))] s.heap.size = A at hD ⊢
  have hA : ∀ q : Nat, s.heap.size ≤ q → A q := fun q h => by rw [← hAe]; exact Or.inr h
  have hS : va_S A s.heap s.heap [] := va_S.rf
  have hP : va_P (dC, dI) vwCl [(m0, .inr (11, oX11 ra x0))] s.heap := hP
  have hl := lv_entry ([.ref m0, .int 1, .int 50]) (n := 3) (Nat.le_of_ble_eq_true rfl)
  have hla : entryFrame m args0 3 = entryFrame m ([.ref m0, .int 1, .int 50] : List Value).toArray 3 := by rw [hargs]
  rw [hla, lg_entry_eq]
  generalize (lg_sl ([.ref m0, .int 1, .int 50]) ++ List.replicate (3 - (lg_sl ([.ref m0, .int 1, .int 50])).length) Slot.unset).toArray = ls at hl ⊢
  have hl : lv_has ls 3 [(0, .ref m0), (1, .int 1), (2, .int 50)] := hl
  refine lv_aload_n hx hb dX11_numberNow_0 rfl (lv_at hl 0 rfl) ?_
  refine va_get (D := (dC, dI)) (ci := 11) (v := .int (x0 8)) (C := RX11) (T := TX11) (N := 61) hx hb hts hin11 hown hK hP 0 rfl rfl 22 (by decide) hw_0 (fun _ h9 => h9) rfl dX11_numberNow_1 ?_
  refine lv_if_eq (tgt := 9) hx hb dX11_numberNow_4 (by decide) (fun c1 => ?_) (fun c1 => ?_)
  · have b2 : iv 0 0 (x0 8) := iv_eqL c1 (iv_k (by decide) (by decide) : iv 0 0 0)
    refine lv_aload_n hx hb dX11_numberNow_9 rfl (lv_at hl 0 rfl) ?_
    refine va_get (D := (dC, dI)) (ci := 11) (v := .int (x0 4)) (C := RX11) (T := TX11) (N := 61) hx hb hts hin11 hown hK hP 0 rfl rfl 18 (by decide) hw_1 (fun _ h9 => h9) rfl dX11_numberNow_10 ?_
    refine lv_iconst (v := 2) hx hb dX11_numberNow_13 (by decide) ?_
    refine lv_icmp_eq (tgt := 25) hx hb dX11_numberNow_14 (by decide) (fun c3 => ?_) (fun c3 => ?_)
    · have b4 : iv 2 2 (x0 4) := iv_eqL c3 (iv_k (by decide) (by decide) : iv 2 2 2)
      refine lv_aload_n hx hb dX11_numberNow_25 rfl (lv_at hl 0 rfl) ?_
      refine va_get (D := (dC, dI)) (ci := 11) (v := .int (x0 7)) (C := RX11) (T := TX11) (N := 61) hx hb hts hin11 hown hK hP 0 rfl rfl 21 (by decide) hw_2 (fun _ h9 => h9) rfl dX11_numberNow_26 ?_
      refine lv_aload_n hx hb dX11_numberNow_29 rfl (lv_at hl 0 rfl) ?_
      refine va_get (D := (dC, dI)) (ci := 11) (v := .int (x0 6)) (C := RX11) (T := TX11) (N := 61) hx hb hts hin11 hown hK hP 0 rfl rfl 20 (by decide) hw_3 (fun _ h9 => h9) rfl dX11_numberNow_30 ?_
      refine lv_isub hx hb dX11_numberNow_33 ?_
      refine iv_top (a := (-700)) (b := 700) (iv_sub (hX 7 : iv 0 700 (x0 7)) (hX 6 : iv 0 700 (x0 6)) (by decide) (by decide) (by decide) (by decide)) (fun z5 b6 => ?_)
      refine lv_iconst (v := 2) hx hb dX11_numberNow_34 (by decide) ?_
      refine lv_icmp_gt (tgt := 54) hx hb dX11_numberNow_35 (by decide) (fun c7 => ?_) (fun c7 => ?_)
      · have b8 : iv 3 700 z5 := iv_ltR c7 (iv_k (by decide) (by decide) : iv 2 2 2) b6 (by decide) (by decide)
        refine lv_aload_n hx hb dX11_numberNow_54 rfl (lv_at hl 0 rfl) ?_
        refine lv_iconst (v := 2) hx hb dX11_numberNow_55 (by decide) ?_
        have hPc := hP.sub (ws' := [(m0, .inr (11, oX11 ra x0))]) [0] rfl
        have hDc := hD.sub (ws' := [(m0, .inr (11, oX11 ra x0))]) [0] (by decide) rfl
        have hFc := va_free (wc := [(m0, .inr (11, oX11 ra x0))]) hD hS hA [0] rfl
        refine va_callv (va_runV (As := [.int 2]) (rest := []) ⟨hx, hb, hml, hown, hts⟩ (s11_wrong l dC dI kB kI kJ kZ kC kS s.heap.size m0 ra x0 2 (hX) ((iv_w (iv_k (by decide) (by decide) : iv 2 2 2) (by decide) (by decide)))) (cwV 1 hts gX11_numberNow_X11_wrong rfl rfl rfl (by decide +kernel) ⟨Nat.le_of_ble_eq_true rfl, Nat.le_of_ble_eq_true rfl⟩) ⟨fun a U g mk q => by obtain ⟨q0, q1, qP, qE, qD⟩ := q; exact ⟨q0, q1, qP, kE_call qE, qD⟩, va_recv hK hP (ci := 11) (q0 := 0) rfl rfl, fun U hU hW => ⟨rfl, by rw [hU], by rw [hU]; exact hPc, kE_warm hW hE, hDc.weaken (fun _ _ _ _ => trivial)⟩⟩ rfl rfl hl.1 rfl (lv_room (Nat.le_of_ble_eq_true rfl)) dX11_numberNow_56 ⟨Nat.le_of_ble_eq_true rfl, Nat.le_of_ble_eq_true rfl⟩) hS (fun q _ h => hFc q h) hFc (fun u t H1 locs ht hvm w10 hB hz1 hk1 hS => ?_)
        obtain ⟨y11, hq12, hq13, hq14, hq15, hq16, hP1, hD1⟩ := hB
        rw [ht] at hP1
        try dsimp only at w10
        obtain ⟨hP, hD⟩ := va_join (wr := []) (w1 := [(m0, .inr (11, oX11 ra y11))]) hP hD [0] [] rfl rfl (by decide) (by decide) hk1 hFc hP1 hD1
        generalize H1 = H at hP hS ⊢
        have hP : va_P (dC, dI) vwCl [(m0, .inr (11, oX11 ra y11))] H := hP
        have hD : va_D A [(m0, .inr (11, oX11 ra y11))] := hD
        refine W.widen (k := 0) (n := 0) (Nat.le_of_ble_eq_true rfl) (Nat.le_of_ble_eq_true rfl) ?_
        refine lv_aload_n hx hb dX11_numberNow_59 rfl (lv_at hl 0 rfl) ?_
        refine va_get (D := (dC, dI)) (ci := 11) (v := .int (y11 8)) (C := RX11) (T := TX11) (N := 61) hx hb hts hin11 hown hK hP 0 rfl rfl 22 (by decide) hw_0 (fun _ h9 => h9) rfl dX11_numberNow_60 ?_
        refine lv_if_ne (tgt := 73) hx hb dX11_numberNow_63 (by decide) (fun _ => ?_) (fun c9 => absurd c9 (iv_ne hq13 (iv_k (by decide) (by decide) : iv 0 0 0) (by decide)))
        refine lv_iload_n hx hb dX11_numberNow_73 rfl (lv_at hl 1 rfl) ?_
        have hP9 := hP.sub (ws' := [(m0, .inr (11, oX11 ra y11))]) [0] rfl
        have hD9 := hD.sub (ws' := [(m0, .inr (11, oX11 ra y11))]) [0] (by decide) rfl
        exact W.iret (v := 1) hx hb hr (fun t ht hW => ⟨⟨1, (), rfl, (iv_w (iv_k (by decide) (by decide) : iv 1 1 1) (by decide) (by decide)), y11, hq12, (show (y11 2).toInt = (x0 2).toInt from by omega), (show y11 3 = x0 3 from hq15), (show y11 1 = x0 1 from hq16), by rw [ht]; exact hP9, hD9⟩, hS.F ht⟩) hS.2.2 dX11_numberNow_74
      · have b17 : iv (-700) 2 z5 := iv_leL (Int32.not_lt.mp c7) b6 (iv_k (by decide) (by decide) : iv 2 2 2) (by decide) (by decide)
        refine lv_aload_n hx hb dX11_numberNow_38 rfl (lv_at hl 0 rfl) ?_
        refine va_get (D := (dC, dI)) (ci := 11) (v := .int (x0 5)) (C := RX11) (T := TX11) (N := 61) hx hb hts hin11 hown hK hP 0 rfl rfl 19 (by decide) hw_4 (fun _ h9 => h9) rfl dX11_numberNow_39 ?_
        refine lv_iload_n hx hb dX11_numberNow_42 rfl (lv_at hl 1 rfl) ?_
        refine lv_icmp_lt (tgt := 54) hx hb dX11_numberNow_43 (by decide) (fun c18 => ?_) (fun c18 => ?_)
        · have b19 : iv (-2147483648) 0 (x0 5) := iv_ltL c18 (hX 5 : iv (-2147483648) 2147483647 (x0 5)) (iv_k (by decide) (by decide) : iv 1 1 1) (by decide) (by decide)
          refine lv_aload_n hx hb dX11_numberNow_54 rfl (lv_at hl 0 rfl) ?_
          refine lv_iconst (v := 2) hx hb dX11_numberNow_55 (by decide) ?_
          have hPc := hP.sub (ws' := [(m0, .inr (11, oX11 ra x0))]) [0] rfl
          have hDc := hD.sub (ws' := [(m0, .inr (11, oX11 ra x0))]) [0] (by decide) rfl
          have hFc := va_free (wc := [(m0, .inr (11, oX11 ra x0))]) hD hS hA [0] rfl
          refine va_callv (va_runV (As := [.int 2]) (rest := []) ⟨hx, hb, hml, hown, hts⟩ (s11_wrong l dC dI kB kI kJ kZ kC kS s.heap.size m0 ra x0 2 (hX) ((iv_w (iv_k (by decide) (by decide) : iv 2 2 2) (by decide) (by decide)))) (cwV 1 hts gX11_numberNow_X11_wrong rfl rfl rfl (by decide +kernel) ⟨Nat.le_of_ble_eq_true rfl, Nat.le_of_ble_eq_true rfl⟩) ⟨fun a U g mk q => by obtain ⟨q0, q1, qP, qE, qD⟩ := q; exact ⟨q0, q1, qP, kE_call qE, qD⟩, va_recv hK hP (ci := 11) (q0 := 0) rfl rfl, fun U hU hW => ⟨rfl, by rw [hU], by rw [hU]; exact hPc, kE_warm hW hE, hDc.weaken (fun _ _ _ _ => trivial)⟩⟩ rfl rfl hl.1 rfl (lv_room (Nat.le_of_ble_eq_true rfl)) dX11_numberNow_56 ⟨Nat.le_of_ble_eq_true rfl, Nat.le_of_ble_eq_true rfl⟩) hS (fun q _ h => hFc q h) hFc (fun u t H1 locs ht hvm w21 hB hz1 hk1 hS => ?_)
          obtain ⟨y22, hq23, hq24, hq25, hq26, hq27, hP1, hD1⟩ := hB
          rw [ht] at hP1
          try dsimp only at w21
          obtain ⟨hP, hD⟩ := va_join (wr := []) (w1 := [(m0, .inr (11, oX11 ra y22))]) hP hD [0] [] rfl rfl (by decide) (by decide) hk1 hFc hP1 hD1
          generalize H1 = H at hP hS ⊢
          have hP : va_P (dC, dI) vwCl [(m0, .inr (11, oX11 ra y22))] H := hP
          have hD : va_D A [(m0, .inr (11, oX11 ra y22))] := hD
          refine W.widen (k := 0) (n := 0) (Nat.le_of_ble_eq_true rfl) (Nat.le_of_ble_eq_true rfl) ?_
          refine lv_aload_n hx hb dX11_numberNow_59 rfl (lv_at hl 0 rfl) ?_
          refine va_get (D := (dC, dI)) (ci := 11) (v := .int (y22 8)) (C := RX11) (T := TX11) (N := 61) hx hb hts hin11 hown hK hP 0 rfl rfl 22 (by decide) hw_0 (fun _ h9 => h9) rfl dX11_numberNow_60 ?_
          refine lv_if_ne (tgt := 73) hx hb dX11_numberNow_63 (by decide) (fun _ => ?_) (fun c9 => absurd c9 (iv_ne hq24 (iv_k (by decide) (by decide) : iv 0 0 0) (by decide)))
          refine lv_iload_n hx hb dX11_numberNow_73 rfl (lv_at hl 1 rfl) ?_
          have hP9 := hP.sub (ws' := [(m0, .inr (11, oX11 ra y22))]) [0] rfl
          have hD9 := hD.sub (ws' := [(m0, .inr (11, oX11 ra y22))]) [0] (by decide) rfl
          exact W.iret (v := 1) hx hb hr (fun t ht hW => ⟨⟨1, (), rfl, (iv_w (iv_k (by decide) (by decide) : iv 1 1 1) (by decide) (by decide)), y22, hq23, (show (y22 2).toInt = (x0 2).toInt from by omega), (show y22 3 = x0 3 from hq26), (show y22 1 = x0 1 from hq27), by rw [ht]; exact hP9, hD9⟩, hS.F ht⟩) hS.2.2 dX11_numberNow_74
        · have b28 : iv 1 2147483647 (x0 5) := iv_leR (Int32.not_lt.mp c18) (iv_k (by decide) (by decide) : iv 1 1 1) (hX 5 : iv (-2147483648) 2147483647 (x0 5)) (by decide) (by decide)
          refine lv_aload_n hx hb dX11_numberNow_46 rfl (lv_at hl 0 rfl) ?_
          refine va_get (D := (dC, dI)) (ci := 11) (v := .int (x0 5)) (C := RX11) (T := TX11) (N := 61) hx hb hts hin11 hown hK hP 0 rfl rfl 19 (by decide) hw_4 (fun _ h9 => h9) rfl dX11_numberNow_47 ?_
          refine lv_iload_n hx hb dX11_numberNow_50 rfl (lv_at hl 2 rfl) ?_
          refine lv_icmp_le (tgt := 59) hx hb dX11_numberNow_51 (by decide) (fun c29 => ?_) (fun c29 => ?_)
          · have b30 : iv 1 50 (x0 5) := iv_leL c29 b28 (iv_k (by decide) (by decide) : iv 50 50 50) (by decide) (by decide)
            refine lv_aload_n hx hb dX11_numberNow_59 rfl (lv_at hl 0 rfl) ?_
            refine va_get (D := (dC, dI)) (ci := 11) (v := .int (x0 8)) (C := RX11) (T := TX11) (N := 61) hx hb hts hin11 hown hK hP 0 rfl rfl 22 (by decide) hw_0 (fun _ h9 => h9) rfl dX11_numberNow_60 ?_
            refine lv_if_ne (tgt := 73) hx hb dX11_numberNow_63 (by decide) (fun c9 => absurd (c1) c9) (fun _ => ?_)
            refine lv_aload_n hx hb dX11_numberNow_66 rfl (lv_at hl 0 rfl) ?_
            refine va_get (D := (dC, dI)) (ci := 11) (v := .int (x0 5)) (C := RX11) (T := TX11) (N := 61) hx hb hts hin11 hown hK hP 0 rfl rfl 19 (by decide) hw_4 (fun _ h9 => h9) rfl dX11_numberNow_67 ?_
            refine lv_goto (tgt := 74) hx hb dX11_numberNow_70 (by decide) ?_
            have hP9 := hP.sub (ws' := [(m0, .inr (11, oX11 ra x0))]) [0] rfl
            have hD9 := hD.sub (ws' := [(m0, .inr (11, oX11 ra x0))]) [0] (by decide) rfl
            exact W.iret (v := x0 5) hx hb hr (fun t ht hW => ⟨⟨x0 5, (), rfl, b30, x0, hX, (show (x0 2).toInt = (x0 2).toInt from by omega), (show x0 3 = x0 3 from rfl), (show x0 1 = x0 1 from rfl), by rw [ht]; exact hP9, hD9⟩, hS.F ht⟩) hS.2.2 dX11_numberNow_74
          · have b31 : iv 51 2147483647 (x0 5) := iv_ltR (Int32.not_le.mp c29) (iv_k (by decide) (by decide) : iv 50 50 50) b28 (by decide) (by decide)
            refine lv_aload_n hx hb dX11_numberNow_54 rfl (lv_at hl 0 rfl) ?_
            refine lv_iconst (v := 2) hx hb dX11_numberNow_55 (by decide) ?_
            have hPc := hP.sub (ws' := [(m0, .inr (11, oX11 ra x0))]) [0] rfl
            have hDc := hD.sub (ws' := [(m0, .inr (11, oX11 ra x0))]) [0] (by decide) rfl
            have hFc := va_free (wc := [(m0, .inr (11, oX11 ra x0))]) hD hS hA [0] rfl
            refine va_callv (va_runV (As := [.int 2]) (rest := []) ⟨hx, hb, hml, hown, hts⟩ (s11_wrong l dC dI kB kI kJ kZ kC kS s.heap.size m0 ra x0 2 (hX) ((iv_w (iv_k (by decide) (by decide) : iv 2 2 2) (by decide) (by decide)))) (cwV 1 hts gX11_numberNow_X11_wrong rfl rfl rfl (by decide +kernel) ⟨Nat.le_of_ble_eq_true rfl, Nat.le_of_ble_eq_true rfl⟩) ⟨fun a U g mk q => by obtain ⟨q0, q1, qP, qE, qD⟩ := q; exact ⟨q0, q1, qP, kE_call qE, qD⟩, va_recv hK hP (ci := 11) (q0 := 0) rfl rfl, fun U hU hW => ⟨rfl, by rw [hU], by rw [hU]; exact hPc, kE_warm hW hE, hDc.weaken (fun _ _ _ _ => trivial)⟩⟩ rfl rfl hl.1 rfl (lv_room (Nat.le_of_ble_eq_true rfl)) dX11_numberNow_56 ⟨Nat.le_of_ble_eq_true rfl, Nat.le_of_ble_eq_true rfl⟩) hS (fun q _ h => hFc q h) hFc (fun u t H1 locs ht hvm w33 hB hz1 hk1 hS => ?_)
            obtain ⟨y34, hq35, hq36, hq37, hq38, hq39, hP1, hD1⟩ := hB
            rw [ht] at hP1
            try dsimp only at w33
            obtain ⟨hP, hD⟩ := va_join (wr := []) (w1 := [(m0, .inr (11, oX11 ra y34))]) hP hD [0] [] rfl rfl (by decide) (by decide) hk1 hFc hP1 hD1
            generalize H1 = H at hP hS ⊢
            have hP : va_P (dC, dI) vwCl [(m0, .inr (11, oX11 ra y34))] H := hP
            have hD : va_D A [(m0, .inr (11, oX11 ra y34))] := hD
            refine W.widen (k := 0) (n := 0) (Nat.le_of_ble_eq_true rfl) (Nat.le_of_ble_eq_true rfl) ?_
            refine lv_aload_n hx hb dX11_numberNow_59 rfl (lv_at hl 0 rfl) ?_
            refine va_get (D := (dC, dI)) (ci := 11) (v := .int (y34 8)) (C := RX11) (T := TX11) (N := 61) hx hb hts hin11 hown hK hP 0 rfl rfl 22 (by decide) hw_0 (fun _ h9 => h9) rfl dX11_numberNow_60 ?_
            refine lv_if_ne (tgt := 73) hx hb dX11_numberNow_63 (by decide) (fun _ => ?_) (fun c9 => absurd c9 (iv_ne hq36 (iv_k (by decide) (by decide) : iv 0 0 0) (by decide)))
            refine lv_iload_n hx hb dX11_numberNow_73 rfl (lv_at hl 1 rfl) ?_
            have hP9 := hP.sub (ws' := [(m0, .inr (11, oX11 ra y34))]) [0] rfl
            have hD9 := hD.sub (ws' := [(m0, .inr (11, oX11 ra y34))]) [0] (by decide) rfl
            exact W.iret (v := 1) hx hb hr (fun t ht hW => ⟨⟨1, (), rfl, (iv_w (iv_k (by decide) (by decide) : iv 1 1 1) (by decide) (by decide)), y34, hq35, (show (y34 2).toInt = (x0 2).toInt from by omega), (show y34 3 = x0 3 from hq38), (show y34 1 = x0 1 from hq39), by rw [ht]; exact hP9, hD9⟩, hS.F ht⟩) hS.2.2 dX11_numberNow_74
    · refine lv_aload_n hx hb dX11_numberNow_17 rfl (lv_at hl 0 rfl) ?_
      refine lv_iconst (v := 1) hx hb dX11_numberNow_18 (by decide) ?_
      have hPc := hP.sub (ws' := [(m0, .inr (11, oX11 ra x0))]) [0] rfl
      have hDc := hD.sub (ws' := [(m0, .inr (11, oX11 ra x0))]) [0] (by decide) rfl
      have hFc := va_free (wc := [(m0, .inr (11, oX11 ra x0))]) hD hS hA [0] rfl
      refine va_callv (va_runV (As := [.int 1]) (rest := []) ⟨hx, hb, hml, hown, hts⟩ (s11_wrong l dC dI kB kI kJ kZ kC kS s.heap.size m0 ra x0 1 (hX) ((iv_w (iv_k (by decide) (by decide) : iv 1 1 1) (by decide) (by decide)))) (cwV 1 hts gX11_numberNow_X11_wrong rfl rfl rfl (by decide +kernel) ⟨Nat.le_of_ble_eq_true rfl, Nat.le_of_ble_eq_true rfl⟩) ⟨fun a U g mk q => by obtain ⟨q0, q1, qP, qE, qD⟩ := q; exact ⟨q0, q1, qP, kE_call qE, qD⟩, va_recv hK hP (ci := 11) (q0 := 0) rfl rfl, fun U hU hW => ⟨rfl, by rw [hU], by rw [hU]; exact hPc, kE_warm hW hE, hDc.weaken (fun _ _ _ _ => trivial)⟩⟩ rfl rfl hl.1 rfl (lv_room (Nat.le_of_ble_eq_true rfl)) dX11_numberNow_19 ⟨Nat.le_of_ble_eq_true rfl, Nat.le_of_ble_eq_true rfl⟩) hS (fun q _ h => hFc q h) hFc (fun u t H1 locs ht hvm w41 hB hz1 hk1 hS => ?_)
      obtain ⟨y42, hq43, hq44, hq45, hq46, hq47, hP1, hD1⟩ := hB
      rw [ht] at hP1
      try dsimp only at w41
      obtain ⟨hP, hD⟩ := va_join (wr := []) (w1 := [(m0, .inr (11, oX11 ra y42))]) hP hD [0] [] rfl rfl (by decide) (by decide) hk1 hFc hP1 hD1
      generalize H1 = H at hP hS ⊢
      have hP : va_P (dC, dI) vwCl [(m0, .inr (11, oX11 ra y42))] H := hP
      have hD : va_D A [(m0, .inr (11, oX11 ra y42))] := hD
      refine W.widen (k := 0) (n := 0) (Nat.le_of_ble_eq_true rfl) (Nat.le_of_ble_eq_true rfl) ?_
      refine lv_goto (tgt := 59) hx hb dX11_numberNow_22 (by decide) ?_
      refine lv_aload_n hx hb dX11_numberNow_59 rfl (lv_at hl 0 rfl) ?_
      refine va_get (D := (dC, dI)) (ci := 11) (v := .int (y42 8)) (C := RX11) (T := TX11) (N := 61) hx hb hts hin11 hown hK hP 0 rfl rfl 22 (by decide) hw_0 (fun _ h9 => h9) rfl dX11_numberNow_60 ?_
      refine lv_if_ne (tgt := 73) hx hb dX11_numberNow_63 (by decide) (fun _ => ?_) (fun c9 => absurd c9 (iv_ne hq44 (iv_k (by decide) (by decide) : iv 0 0 0) (by decide)))
      refine lv_iload_n hx hb dX11_numberNow_73 rfl (lv_at hl 1 rfl) ?_
      have hP9 := hP.sub (ws' := [(m0, .inr (11, oX11 ra y42))]) [0] rfl
      have hD9 := hD.sub (ws' := [(m0, .inr (11, oX11 ra y42))]) [0] (by decide) rfl
      exact W.iret (v := 1) hx hb hr (fun t ht hW => ⟨⟨1, (), rfl, (iv_w (iv_k (by decide) (by decide) : iv 1 1 1) (by decide) (by decide)), y42, hq43, (show (y42 2).toInt = (x0 2).toInt from by omega), (show y42 3 = x0 3 from hq46), (show y42 1 = x0 1 from hq47), by rw [ht]; exact hP9, hD9⟩, hS.F ht⟩) hS.2.2 dX11_numberNow_74
  · have b48 : iv 1 5 (x0 8) := iv_neLo c1 (hX 8 : iv 0 5 (x0 8)) (iv_k (by decide) (by decide) : iv 0 0 0) (by decide) (by decide)
    refine lv_iload_n hx hb dX11_numberNow_7 rfl (lv_at hl 1 rfl) ?_
    have hP9 := hP.sub (ws' := [(m0, .inr (11, oX11 ra x0))]) [0] rfl
    have hD9 := hD.sub (ws' := [(m0, .inr (11, oX11 ra x0))]) [0] (by decide) rfl
    exact W.iret (v := 1) hx hb hr (fun t ht hW => ⟨⟨1, (), rfl, (iv_w (iv_k (by decide) (by decide) : iv 1 1 1) (by decide) (by decide)), x0, hX, (show (x0 2).toInt = (x0 2).toInt from by omega), (show x0 3 = x0 3 from rfl), (show x0 1 = x0 1 from rfl), by rw [ht]; exact hP9, hD9⟩, hS.F ht⟩) hS.2.2 dX11_numberNow_8
def rm_s11_readNumber_0_15 : Room := { frames := 2, cells := 0, slots := 0, locals := 43 }
set_option maxHeartbeats 4000000 in
set_option maxRecDepth 100000 in
theorem s11_readNumber_0_15 (l : Launch) (dC : Nat → ClassId) (dI : Nat → Nat → Nat) (kB kI kJ kZ kC kS : ClassId) (sz : Nat) (m0 : Nat) (ra : Nat → Nat) (x0 : Nat → Int32) (q_tape : Nat → Int32) (hX : fI lX11 hX11 x0) (hq_tape : fI (fun _ => 0) (fun _ => 255) q_tape) : Met l yX11_readNumber wsX11_readNumber rm_s11_readNumber_0_15 (va_Pc [.ref m0, .int 0, .int 15] (fun U => U.heap.size = sz ∧ va_P (dC, dI) vwCl [(m0, .inr (11, oX11 ra x0)), (ra 13, .inl (kI, 700, .inl q_tape))] U.heap ∧ kE dC dI kB kI kJ kZ kC kS U ∧ va_D (fun _ => True) [(m0, .inr (11, oX11 ra x0)), (ra 13, .inl (kI, 700, .inl q_tape))])) (va_Qi (fun (r : Int32) (_ : Unit) => iv 0 15 r) (fun _ t => ∃ (x0' : Nat → Int32), fI lX11 hX11 x0' ∧ ((x0 2).toInt ≤ (x0' 2).toInt) ∧ (x0' 3 = x0 3) ∧ (x0' 1 = x0 1) ∧ va_P (dC, dI) vwCl [(m0, .inr (11, oX11 ra x0')), (ra 13, .inl (kI, 700, .inl q_tape))] t.heap ∧ va_D (va_A [(m0, .inr (11, oX11 ra x0)), (ra 13, .inl (kI, 700, .inl q_tape))] sz) [(m0, .inr (11, oX11 ra x0')), (ra 13, .inl (kI, 700, .inl q_tape))]) (va_A [(m0, .inr (11, oX11 ra x0)), (ra 13, .inl (kI, 700, .inl q_tape))] sz)) 0 0 (va_A [(m0, .inr (11, oX11 ra x0)), (ra 13, .inl (kI, 700, .inl q_tape))] sz) := by
  refine Met.ofW (cc := cX11_readNumber) (maxL := 4) (ret := (some .int)) (by decide) rfl ?_
  intro p e s m args0 below meth c s₁ B hml hv
  obtain ⟨hargs, hsz, hP, hE, hD0⟩ := hv
  have hx := B.exec
  have hb := B.bytes
  have hr := B.returns
  have hts := atoms_spec (ws := wsX11_readNumber) B.pre
  have hown : s.vm.findClass RX11 = some m.cls := findClass_of_methodNamed B.named
  have hlocks := B.notSynchronized
  have hK := hE.1
  have hin11 : ∀ w ∈ wsX110, w ∈ wsX11_readNumber := fun _ h9 => List.mem_cons_of_mem _ (List.mem_append_right _ h9)
  have hw_0 := hts (.fieldLink RX11 184 "PathProberModel" "bad" "I") (List.mem_of_getElem? (i := 1) (by decide +kernel))
  subst hsz
  have hD := hD0.self (sz := s.heap.size)
  generalize hAe : va_A [(m0, .inr (11, oX11 ra x0)), (ra 13, .inl (kI, 700, .inl q_tape))] s.heap.size = A at hD ⊢
  have hA : ∀ q : Nat, s.heap.size ≤ q → A q := fun q h => by rw [← hAe]; exact Or.inr h
  have hS : va_S A s.heap s.heap [] := va_S.rf
  have hP : va_P (dC, dI) vwCl [(m0, .inr (11, oX11 ra x0)), (ra 13, .inl (kI, 700, .inl q_tape))] s.heap := hP
  have hl := lv_entry ([.ref m0, .int 0, .int 15]) (n := 4) (Nat.le_of_ble_eq_true rfl)
  have hla : entryFrame m args0 4 = entryFrame m ([.ref m0, .int 0, .int 15] : List Value).toArray 4 := by rw [hargs]
  rw [hla, lg_entry_eq]
  generalize (lg_sl ([.ref m0, .int 0, .int 15]) ++ List.replicate (4 - (lg_sl ([.ref m0, .int 0, .int 15])).length) Slot.unset).toArray = ls at hl ⊢
  have hl : lv_has ls 4 [(0, .ref m0), (1, .int 0), (2, .int 15)] := hl
  refine lv_aload_n hx hb dX11_readNumber_0 rfl (lv_at hl 0 rfl) ?_
  refine lv_iload_n hx hb dX11_readNumber_1 rfl (lv_at hl 1 rfl) ?_
  refine lv_iload_n hx hb dX11_readNumber_2 rfl (lv_at hl 2 rfl) ?_
  have hPc := hP.sub (ws' := [(m0, .inr (11, oX11 ra x0))]) [0] rfl
  have hDc := hD.sub (ws' := [(m0, .inr (11, oX11 ra x0))]) [0] (by decide) rfl
  have hFc := va_free (wc := [(m0, .inr (11, oX11 ra x0))]) hD hS hA [0] rfl
  refine va_calli (va_runV (As := [.int 0, .int 15]) (rest := []) ⟨hx, hb, hml, hown, hts⟩ (s11_numberNow_0_15 l dC dI kB kI kJ kZ kC kS s.heap.size m0 ra x0 (hX)) (cwV 2 hts gX11_readNumber_X11_numberNow rfl rfl rfl (by decide +kernel) ⟨Nat.le_of_ble_eq_true rfl, Nat.le_of_ble_eq_true rfl⟩) ⟨fun a U g mk q => by obtain ⟨q0, q1, qP, qE, qD⟩ := q; exact ⟨q0, q1, qP, kE_call qE, qD⟩, va_recv hK hP (ci := 11) (q0 := 0) rfl rfl, fun U hU hW => ⟨rfl, by rw [hU], by rw [hU]; exact hPc, kE_warm hW hE, hDc.weaken (fun _ _ _ _ => trivial)⟩⟩ rfl rfl hl.1 rfl (lv_room (Nat.le_of_ble_eq_true rfl)) dX11_readNumber_3 ⟨Nat.le_of_ble_eq_true rfl, Nat.le_of_ble_eq_true rfl⟩) hS (fun q _ h => hFc q h) hFc (fun r1 u t H1 locs ht hvm w2 hB hz1 hk1 hS => ?_)
  obtain ⟨y3, hq4, hq5, hq6, hq7, hP1, hD1⟩ := hB
  rw [ht] at hP1
  try dsimp only at w2
  obtain ⟨hP, hD⟩ := va_join (wr := [(ra 13, .inl (kI, 700, .inl q_tape))]) (w1 := [(m0, .inr (11, oX11 ra y3))]) hP hD [0] [1] rfl rfl (by decide) (by decide) hk1 hFc hP1 hD1
  generalize H1 = H at hP hS ⊢
  have hP : va_P (dC, dI) vwCl [(ra 13, .inl (kI, 700, .inl q_tape)), (m0, .inr (11, oX11 ra y3))] H := hP
  have hD : va_D A [(ra 13, .inl (kI, 700, .inl q_tape)), (m0, .inr (11, oX11 ra y3))] := hD
  refine W.widen (k := 0) (n := 0) (Nat.le_of_ble_eq_true rfl) (Nat.le_of_ble_eq_true rfl) ?_
  refine lv_istore_n (lv' := [(3, .int r1), (0, .ref m0), (1, .int 0), (2, .int 15)]) hx hb dX11_readNumber_6 rfl hl (by decide) rfl (fun ls hl => ?_)
  refine lv_aload_n hx hb dX11_readNumber_7 rfl (lv_at hl 1 rfl) ?_
  refine va_get (D := (dC, dI)) (ci := 11) (v := .int (y3 8)) (C := RX11) (T := TX11) (N := 61) hx hb hts hin11 hown hK hP 1 rfl rfl 22 (by decide) hw_0 (fun _ h9 => h9) rfl dX11_readNumber_8 ?_
  refine lv_if_ne (tgt := 18) hx hb dX11_readNumber_11 (by decide) (fun c8 => ?_) (fun c8 => ?_)
  · have b9 : iv 1 5 (y3 8) := iv_neLo c8 (hq4 8 : iv 0 5 (y3 8)) (iv_k (by decide) (by decide) : iv 0 0 0) (by decide) (by decide)
    refine lv_iload_n hx hb dX11_readNumber_18 rfl (lv_at hl 0 rfl) ?_
    have hP9 := hP.sub (ws' := [(m0, .inr (11, oX11 ra y3)), (ra 13, .inl (kI, 700, .inl q_tape))]) [1, 0] rfl
    have hD9 := hD.sub (ws' := [(m0, .inr (11, oX11 ra y3)), (ra 13, .inl (kI, 700, .inl q_tape))]) [1, 0] (by decide) rfl
    exact W.iret (v := r1) hx hb hr (fun t ht hW => ⟨⟨r1, (), rfl, w2, y3, hq4, (show (x0 2).toInt ≤ (y3 2).toInt from by omega), (show y3 3 = x0 3 from hq6), (show y3 1 = x0 1 from hq7), by rw [ht]; exact hP9, hD9⟩, hS.F ht⟩) hS.2.2 dX11_readNumber_19
  · have b10 : iv 0 0 (y3 8) := iv_eqL c8 (iv_k (by decide) (by decide) : iv 0 0 0)
    refine lv_aload_n hx hb dX11_readNumber_14 rfl (lv_at hl 1 rfl) ?_
    have hPc := hP.sub (ws' := [(m0, .inr (11, oX11 ra y3)), (ra 13, .inl (kI, 700, .inl q_tape))]) [1, 0] rfl
    have hDc := hD.sub (ws' := [(m0, .inr (11, oX11 ra y3)), (ra 13, .inl (kI, 700, .inl q_tape))]) [1, 0] (by decide) rfl
    have hFc := va_free (wc := [(m0, .inr (11, oX11 ra y3)), (ra 13, .inl (kI, 700, .inl q_tape))]) hD hS hA [1, 0] rfl
    refine va_callv (va_runV (As := []) (rest := []) ⟨hx, hb, hml, hown, hts⟩ (s11_stepOn l dC dI kB kI kJ kZ kC kS H.size m0 ra y3 q_tape (hq4) (hq_tape)) (cwV 0 hts gX11_readNumber_X11_stepOn rfl rfl rfl (by decide +kernel) ⟨Nat.le_of_ble_eq_true rfl, Nat.le_of_ble_eq_true rfl⟩) ⟨fun a U g mk q => by obtain ⟨q0, q1, qP, qE, qD⟩ := q; exact ⟨q0, q1, qP, kE_call qE, qD⟩, va_recv hK hP (ci := 11) (q0 := 1) rfl rfl, fun U hU hW => ⟨rfl, by rw [hU], by rw [hU]; exact hPc, kE_warm hW hE, hDc.weaken (fun _ _ _ _ => trivial)⟩⟩ rfl rfl hl.1 rfl (lv_room (Nat.le_of_ble_eq_true rfl)) dX11_readNumber_15 ⟨Nat.le_of_ble_eq_true rfl, Nat.le_of_ble_eq_true rfl⟩) hS (fun q _ h => hFc q h) hFc (fun u t H1 locs ht hvm w12 hB hz1 hk1 hS => ?_)
    obtain ⟨y13, hq14, hq15, hq16, hq17, hq18, hP1, hD1⟩ := hB
    rw [ht] at hP1
    try dsimp only at w12
    obtain ⟨hP, hD⟩ := va_join (wr := []) (w1 := [(m0, .inr (11, oX11 ra y13)), (ra 13, .inl (kI, 700, .inl q_tape))]) hP hD [1, 0] [] rfl rfl (by decide) (by decide) hk1 hFc hP1 hD1
    generalize H1 = H at hP hS ⊢
    have hP : va_P (dC, dI) vwCl [(m0, .inr (11, oX11 ra y13)), (ra 13, .inl (kI, 700, .inl q_tape))] H := hP
    have hD : va_D A [(m0, .inr (11, oX11 ra y13)), (ra 13, .inl (kI, 700, .inl q_tape))] := hD
    refine W.widen (k := 0) (n := 0) (Nat.le_of_ble_eq_true rfl) (Nat.le_of_ble_eq_true rfl) ?_
    refine lv_iload_n hx hb dX11_readNumber_18 rfl (lv_at hl 0 rfl) ?_
    have hP9 := hP.sub (ws' := [(m0, .inr (11, oX11 ra y13)), (ra 13, .inl (kI, 700, .inl q_tape))]) [0, 1] rfl
    have hD9 := hD.sub (ws' := [(m0, .inr (11, oX11 ra y13)), (ra 13, .inl (kI, 700, .inl q_tape))]) [0, 1] (by decide) rfl
    exact W.iret (v := r1) hx hb hr (fun t ht hW => ⟨⟨r1, (), rfl, w2, y13, hq14, (show (x0 2).toInt ≤ (y13 2).toInt from by omega), (show y13 3 = x0 3 from hq16.trans (hq6)), (show y13 1 = x0 1 from hq18.trans (hq7)), by rw [ht]; exact hP9, hD9⟩, hS.F ht⟩) hS.2.2 dX11_readNumber_19
def rm_s11_readNumber_1_60 : Room := { frames := 2, cells := 0, slots := 0, locals := 43 }
set_option maxHeartbeats 4000000 in
set_option maxRecDepth 100000 in
theorem s11_readNumber_1_60 (l : Launch) (dC : Nat → ClassId) (dI : Nat → Nat → Nat) (kB kI kJ kZ kC kS : ClassId) (sz : Nat) (m0 : Nat) (ra : Nat → Nat) (x0 : Nat → Int32) (q_tape : Nat → Int32) (hX : fI lX11 hX11 x0) (hq_tape : fI (fun _ => 0) (fun _ => 255) q_tape) : Met l yX11_readNumber wsX11_readNumber rm_s11_readNumber_1_60 (va_Pc [.ref m0, .int 1, .int 60] (fun U => U.heap.size = sz ∧ va_P (dC, dI) vwCl [(m0, .inr (11, oX11 ra x0)), (ra 13, .inl (kI, 700, .inl q_tape))] U.heap ∧ kE dC dI kB kI kJ kZ kC kS U ∧ va_D (fun _ => True) [(m0, .inr (11, oX11 ra x0)), (ra 13, .inl (kI, 700, .inl q_tape))])) (va_Qi (fun (r : Int32) (_ : Unit) => iv 1 60 r) (fun _ t => ∃ (x0' : Nat → Int32), fI lX11 hX11 x0' ∧ ((x0 2).toInt ≤ (x0' 2).toInt) ∧ (x0' 3 = x0 3) ∧ (x0' 1 = x0 1) ∧ va_P (dC, dI) vwCl [(m0, .inr (11, oX11 ra x0')), (ra 13, .inl (kI, 700, .inl q_tape))] t.heap ∧ va_D (va_A [(m0, .inr (11, oX11 ra x0)), (ra 13, .inl (kI, 700, .inl q_tape))] sz) [(m0, .inr (11, oX11 ra x0')), (ra 13, .inl (kI, 700, .inl q_tape))]) (va_A [(m0, .inr (11, oX11 ra x0)), (ra 13, .inl (kI, 700, .inl q_tape))] sz)) 0 0 (va_A [(m0, .inr (11, oX11 ra x0)), (ra 13, .inl (kI, 700, .inl q_tape))] sz) := by
  refine Met.ofW (cc := cX11_readNumber) (maxL := 4) (ret := (some .int)) (by decide) rfl ?_
  intro p e s m args0 below meth c s₁ B hml hv
  obtain ⟨hargs, hsz, hP, hE, hD0⟩ := hv
  have hx := B.exec
  have hb := B.bytes
  have hr := B.returns
  have hts := atoms_spec (ws := wsX11_readNumber) B.pre
  have hown : s.vm.findClass RX11 = some m.cls := findClass_of_methodNamed B.named
  have hlocks := B.notSynchronized
  have hK := hE.1
  have hin11 : ∀ w ∈ wsX110, w ∈ wsX11_readNumber := fun _ h9 => List.mem_cons_of_mem _ (List.mem_append_right _ h9)
  have hw_0 := hts (.fieldLink RX11 184 "PathProberModel" "bad" "I") (List.mem_of_getElem? (i := 1) (by decide +kernel))
  subst hsz
  have hD := hD0.self (sz := s.heap.size)
  generalize hAe : va_A [(m0, .inr (11, oX11 ra x0)), (ra 13, .inl (kI, 700, .inl q_tape))] s.heap.size = A at hD ⊢
  have hA : ∀ q : Nat, s.heap.size ≤ q → A q := fun q h => by rw [← hAe]; exact Or.inr h
  have hS : va_S A s.heap s.heap [] := va_S.rf
  have hP : va_P (dC, dI) vwCl [(m0, .inr (11, oX11 ra x0)), (ra 13, .inl (kI, 700, .inl q_tape))] s.heap := hP
  have hl := lv_entry ([.ref m0, .int 1, .int 60]) (n := 4) (Nat.le_of_ble_eq_true rfl)
  have hla : entryFrame m args0 4 = entryFrame m ([.ref m0, .int 1, .int 60] : List Value).toArray 4 := by rw [hargs]
  rw [hla, lg_entry_eq]
  generalize (lg_sl ([.ref m0, .int 1, .int 60]) ++ List.replicate (4 - (lg_sl ([.ref m0, .int 1, .int 60])).length) Slot.unset).toArray = ls at hl ⊢
  have hl : lv_has ls 4 [(0, .ref m0), (1, .int 1), (2, .int 60)] := hl
  refine lv_aload_n hx hb dX11_readNumber_0 rfl (lv_at hl 0 rfl) ?_
  refine lv_iload_n hx hb dX11_readNumber_1 rfl (lv_at hl 1 rfl) ?_
  refine lv_iload_n hx hb dX11_readNumber_2 rfl (lv_at hl 2 rfl) ?_
  have hPc := hP.sub (ws' := [(m0, .inr (11, oX11 ra x0))]) [0] rfl
  have hDc := hD.sub (ws' := [(m0, .inr (11, oX11 ra x0))]) [0] (by decide) rfl
  have hFc := va_free (wc := [(m0, .inr (11, oX11 ra x0))]) hD hS hA [0] rfl
  refine va_calli (va_runV (As := [.int 1, .int 60]) (rest := []) ⟨hx, hb, hml, hown, hts⟩ (s11_numberNow_1_60 l dC dI kB kI kJ kZ kC kS s.heap.size m0 ra x0 (hX)) (cwV 2 hts gX11_readNumber_X11_numberNow rfl rfl rfl (by decide +kernel) ⟨Nat.le_of_ble_eq_true rfl, Nat.le_of_ble_eq_true rfl⟩) ⟨fun a U g mk q => by obtain ⟨q0, q1, qP, qE, qD⟩ := q; exact ⟨q0, q1, qP, kE_call qE, qD⟩, va_recv hK hP (ci := 11) (q0 := 0) rfl rfl, fun U hU hW => ⟨rfl, by rw [hU], by rw [hU]; exact hPc, kE_warm hW hE, hDc.weaken (fun _ _ _ _ => trivial)⟩⟩ rfl rfl hl.1 rfl (lv_room (Nat.le_of_ble_eq_true rfl)) dX11_readNumber_3 ⟨Nat.le_of_ble_eq_true rfl, Nat.le_of_ble_eq_true rfl⟩) hS (fun q _ h => hFc q h) hFc (fun r1 u t H1 locs ht hvm w2 hB hz1 hk1 hS => ?_)
  obtain ⟨y3, hq4, hq5, hq6, hq7, hP1, hD1⟩ := hB
  rw [ht] at hP1
  try dsimp only at w2
  obtain ⟨hP, hD⟩ := va_join (wr := [(ra 13, .inl (kI, 700, .inl q_tape))]) (w1 := [(m0, .inr (11, oX11 ra y3))]) hP hD [0] [1] rfl rfl (by decide) (by decide) hk1 hFc hP1 hD1
  generalize H1 = H at hP hS ⊢
  have hP : va_P (dC, dI) vwCl [(ra 13, .inl (kI, 700, .inl q_tape)), (m0, .inr (11, oX11 ra y3))] H := hP
  have hD : va_D A [(ra 13, .inl (kI, 700, .inl q_tape)), (m0, .inr (11, oX11 ra y3))] := hD
  refine W.widen (k := 0) (n := 0) (Nat.le_of_ble_eq_true rfl) (Nat.le_of_ble_eq_true rfl) ?_
  refine lv_istore_n (lv' := [(3, .int r1), (0, .ref m0), (1, .int 1), (2, .int 60)]) hx hb dX11_readNumber_6 rfl hl (by decide) rfl (fun ls hl => ?_)
  refine lv_aload_n hx hb dX11_readNumber_7 rfl (lv_at hl 1 rfl) ?_
  refine va_get (D := (dC, dI)) (ci := 11) (v := .int (y3 8)) (C := RX11) (T := TX11) (N := 61) hx hb hts hin11 hown hK hP 1 rfl rfl 22 (by decide) hw_0 (fun _ h9 => h9) rfl dX11_readNumber_8 ?_
  refine lv_if_ne (tgt := 18) hx hb dX11_readNumber_11 (by decide) (fun c8 => ?_) (fun c8 => ?_)
  · have b9 : iv 1 5 (y3 8) := iv_neLo c8 (hq4 8 : iv 0 5 (y3 8)) (iv_k (by decide) (by decide) : iv 0 0 0) (by decide) (by decide)
    refine lv_iload_n hx hb dX11_readNumber_18 rfl (lv_at hl 0 rfl) ?_
    have hP9 := hP.sub (ws' := [(m0, .inr (11, oX11 ra y3)), (ra 13, .inl (kI, 700, .inl q_tape))]) [1, 0] rfl
    have hD9 := hD.sub (ws' := [(m0, .inr (11, oX11 ra y3)), (ra 13, .inl (kI, 700, .inl q_tape))]) [1, 0] (by decide) rfl
    exact W.iret (v := r1) hx hb hr (fun t ht hW => ⟨⟨r1, (), rfl, w2, y3, hq4, (show (x0 2).toInt ≤ (y3 2).toInt from by omega), (show y3 3 = x0 3 from hq6), (show y3 1 = x0 1 from hq7), by rw [ht]; exact hP9, hD9⟩, hS.F ht⟩) hS.2.2 dX11_readNumber_19
  · have b10 : iv 0 0 (y3 8) := iv_eqL c8 (iv_k (by decide) (by decide) : iv 0 0 0)
    refine lv_aload_n hx hb dX11_readNumber_14 rfl (lv_at hl 1 rfl) ?_
    have hPc := hP.sub (ws' := [(m0, .inr (11, oX11 ra y3)), (ra 13, .inl (kI, 700, .inl q_tape))]) [1, 0] rfl
    have hDc := hD.sub (ws' := [(m0, .inr (11, oX11 ra y3)), (ra 13, .inl (kI, 700, .inl q_tape))]) [1, 0] (by decide) rfl
    have hFc := va_free (wc := [(m0, .inr (11, oX11 ra y3)), (ra 13, .inl (kI, 700, .inl q_tape))]) hD hS hA [1, 0] rfl
    refine va_callv (va_runV (As := []) (rest := []) ⟨hx, hb, hml, hown, hts⟩ (s11_stepOn l dC dI kB kI kJ kZ kC kS H.size m0 ra y3 q_tape (hq4) (hq_tape)) (cwV 0 hts gX11_readNumber_X11_stepOn rfl rfl rfl (by decide +kernel) ⟨Nat.le_of_ble_eq_true rfl, Nat.le_of_ble_eq_true rfl⟩) ⟨fun a U g mk q => by obtain ⟨q0, q1, qP, qE, qD⟩ := q; exact ⟨q0, q1, qP, kE_call qE, qD⟩, va_recv hK hP (ci := 11) (q0 := 1) rfl rfl, fun U hU hW => ⟨rfl, by rw [hU], by rw [hU]; exact hPc, kE_warm hW hE, hDc.weaken (fun _ _ _ _ => trivial)⟩⟩ rfl rfl hl.1 rfl (lv_room (Nat.le_of_ble_eq_true rfl)) dX11_readNumber_15 ⟨Nat.le_of_ble_eq_true rfl, Nat.le_of_ble_eq_true rfl⟩) hS (fun q _ h => hFc q h) hFc (fun u t H1 locs ht hvm w12 hB hz1 hk1 hS => ?_)
    obtain ⟨y13, hq14, hq15, hq16, hq17, hq18, hP1, hD1⟩ := hB
    rw [ht] at hP1
    try dsimp only at w12
    obtain ⟨hP, hD⟩ := va_join (wr := []) (w1 := [(m0, .inr (11, oX11 ra y13)), (ra 13, .inl (kI, 700, .inl q_tape))]) hP hD [1, 0] [] rfl rfl (by decide) (by decide) hk1 hFc hP1 hD1
    generalize H1 = H at hP hS ⊢
    have hP : va_P (dC, dI) vwCl [(m0, .inr (11, oX11 ra y13)), (ra 13, .inl (kI, 700, .inl q_tape))] H := hP
    have hD : va_D A [(m0, .inr (11, oX11 ra y13)), (ra 13, .inl (kI, 700, .inl q_tape))] := hD
    refine W.widen (k := 0) (n := 0) (Nat.le_of_ble_eq_true rfl) (Nat.le_of_ble_eq_true rfl) ?_
    refine lv_iload_n hx hb dX11_readNumber_18 rfl (lv_at hl 0 rfl) ?_
    have hP9 := hP.sub (ws' := [(m0, .inr (11, oX11 ra y13)), (ra 13, .inl (kI, 700, .inl q_tape))]) [0, 1] rfl
    have hD9 := hD.sub (ws' := [(m0, .inr (11, oX11 ra y13)), (ra 13, .inl (kI, 700, .inl q_tape))]) [0, 1] (by decide) rfl
    exact W.iret (v := r1) hx hb hr (fun t ht hW => ⟨⟨r1, (), rfl, w2, y13, hq14, (show (x0 2).toInt ≤ (y13 2).toInt from by omega), (show y13 3 = x0 3 from hq16.trans (hq6)), (show y13 1 = x0 1 from hq18.trans (hq7)), by rw [ht]; exact hP9, hD9⟩, hS.F ht⟩) hS.2.2 dX11_readNumber_19
def rm_s11_readNumber_1_50 : Room := { frames := 2, cells := 0, slots := 0, locals := 43 }
set_option maxHeartbeats 4000000 in
set_option maxRecDepth 100000 in
theorem s11_readNumber_1_50 (l : Launch) (dC : Nat → ClassId) (dI : Nat → Nat → Nat) (kB kI kJ kZ kC kS : ClassId) (sz : Nat) (m0 : Nat) (ra : Nat → Nat) (x0 : Nat → Int32) (q_tape : Nat → Int32) (hX : fI lX11 hX11 x0) (hq_tape : fI (fun _ => 0) (fun _ => 255) q_tape) : Met l yX11_readNumber wsX11_readNumber rm_s11_readNumber_1_50 (va_Pc [.ref m0, .int 1, .int 50] (fun U => U.heap.size = sz ∧ va_P (dC, dI) vwCl [(m0, .inr (11, oX11 ra x0)), (ra 13, .inl (kI, 700, .inl q_tape))] U.heap ∧ kE dC dI kB kI kJ kZ kC kS U ∧ va_D (fun _ => True) [(m0, .inr (11, oX11 ra x0)), (ra 13, .inl (kI, 700, .inl q_tape))])) (va_Qi (fun (r : Int32) (_ : Unit) => iv 1 50 r) (fun _ t => ∃ (x0' : Nat → Int32), fI lX11 hX11 x0' ∧ ((x0 2).toInt ≤ (x0' 2).toInt) ∧ (x0' 3 = x0 3) ∧ (x0' 1 = x0 1) ∧ va_P (dC, dI) vwCl [(m0, .inr (11, oX11 ra x0')), (ra 13, .inl (kI, 700, .inl q_tape))] t.heap ∧ va_D (va_A [(m0, .inr (11, oX11 ra x0)), (ra 13, .inl (kI, 700, .inl q_tape))] sz) [(m0, .inr (11, oX11 ra x0')), (ra 13, .inl (kI, 700, .inl q_tape))]) (va_A [(m0, .inr (11, oX11 ra x0)), (ra 13, .inl (kI, 700, .inl q_tape))] sz)) 0 0 (va_A [(m0, .inr (11, oX11 ra x0)), (ra 13, .inl (kI, 700, .inl q_tape))] sz) := by
  refine Met.ofW (cc := cX11_readNumber) (maxL := 4) (ret := (some .int)) (by decide) rfl ?_
  intro p e s m args0 below meth c s₁ B hml hv
  obtain ⟨hargs, hsz, hP, hE, hD0⟩ := hv
  have hx := B.exec
  have hb := B.bytes
  have hr := B.returns
  have hts := atoms_spec (ws := wsX11_readNumber) B.pre
  have hown : s.vm.findClass RX11 = some m.cls := findClass_of_methodNamed B.named
  have hlocks := B.notSynchronized
  have hK := hE.1
  have hin11 : ∀ w ∈ wsX110, w ∈ wsX11_readNumber := fun _ h9 => List.mem_cons_of_mem _ (List.mem_append_right _ h9)
  have hw_0 := hts (.fieldLink RX11 184 "PathProberModel" "bad" "I") (List.mem_of_getElem? (i := 1) (by decide +kernel))
  subst hsz
  have hD := hD0.self (sz := s.heap.size)
  generalize hAe : va_A [(m0, .inr (11, oX11 ra x0)), (ra 13, .inl (kI, 700, .inl q_tape))] s.heap.size = A at hD ⊢
  have hA : ∀ q : Nat, s.heap.size ≤ q → A q := fun q h => by rw [← hAe]; exact Or.inr h
  have hS : va_S A s.heap s.heap [] := va_S.rf
  have hP : va_P (dC, dI) vwCl [(m0, .inr (11, oX11 ra x0)), (ra 13, .inl (kI, 700, .inl q_tape))] s.heap := hP
  have hl := lv_entry ([.ref m0, .int 1, .int 50]) (n := 4) (Nat.le_of_ble_eq_true rfl)
  have hla : entryFrame m args0 4 = entryFrame m ([.ref m0, .int 1, .int 50] : List Value).toArray 4 := by rw [hargs]
  rw [hla, lg_entry_eq]
  generalize (lg_sl ([.ref m0, .int 1, .int 50]) ++ List.replicate (4 - (lg_sl ([.ref m0, .int 1, .int 50])).length) Slot.unset).toArray = ls at hl ⊢
  have hl : lv_has ls 4 [(0, .ref m0), (1, .int 1), (2, .int 50)] := hl
  refine lv_aload_n hx hb dX11_readNumber_0 rfl (lv_at hl 0 rfl) ?_
  refine lv_iload_n hx hb dX11_readNumber_1 rfl (lv_at hl 1 rfl) ?_
  refine lv_iload_n hx hb dX11_readNumber_2 rfl (lv_at hl 2 rfl) ?_
  have hPc := hP.sub (ws' := [(m0, .inr (11, oX11 ra x0))]) [0] rfl
  have hDc := hD.sub (ws' := [(m0, .inr (11, oX11 ra x0))]) [0] (by decide) rfl
  have hFc := va_free (wc := [(m0, .inr (11, oX11 ra x0))]) hD hS hA [0] rfl
  refine va_calli (va_runV (As := [.int 1, .int 50]) (rest := []) ⟨hx, hb, hml, hown, hts⟩ (s11_numberNow_1_50 l dC dI kB kI kJ kZ kC kS s.heap.size m0 ra x0 (hX)) (cwV 2 hts gX11_readNumber_X11_numberNow rfl rfl rfl (by decide +kernel) ⟨Nat.le_of_ble_eq_true rfl, Nat.le_of_ble_eq_true rfl⟩) ⟨fun a U g mk q => by obtain ⟨q0, q1, qP, qE, qD⟩ := q; exact ⟨q0, q1, qP, kE_call qE, qD⟩, va_recv hK hP (ci := 11) (q0 := 0) rfl rfl, fun U hU hW => ⟨rfl, by rw [hU], by rw [hU]; exact hPc, kE_warm hW hE, hDc.weaken (fun _ _ _ _ => trivial)⟩⟩ rfl rfl hl.1 rfl (lv_room (Nat.le_of_ble_eq_true rfl)) dX11_readNumber_3 ⟨Nat.le_of_ble_eq_true rfl, Nat.le_of_ble_eq_true rfl⟩) hS (fun q _ h => hFc q h) hFc (fun r1 u t H1 locs ht hvm w2 hB hz1 hk1 hS => ?_)
  obtain ⟨y3, hq4, hq5, hq6, hq7, hP1, hD1⟩ := hB
  rw [ht] at hP1
  try dsimp only at w2
  obtain ⟨hP, hD⟩ := va_join (wr := [(ra 13, .inl (kI, 700, .inl q_tape))]) (w1 := [(m0, .inr (11, oX11 ra y3))]) hP hD [0] [1] rfl rfl (by decide) (by decide) hk1 hFc hP1 hD1
  generalize H1 = H at hP hS ⊢
  have hP : va_P (dC, dI) vwCl [(ra 13, .inl (kI, 700, .inl q_tape)), (m0, .inr (11, oX11 ra y3))] H := hP
  have hD : va_D A [(ra 13, .inl (kI, 700, .inl q_tape)), (m0, .inr (11, oX11 ra y3))] := hD
  refine W.widen (k := 0) (n := 0) (Nat.le_of_ble_eq_true rfl) (Nat.le_of_ble_eq_true rfl) ?_
  refine lv_istore_n (lv' := [(3, .int r1), (0, .ref m0), (1, .int 1), (2, .int 50)]) hx hb dX11_readNumber_6 rfl hl (by decide) rfl (fun ls hl => ?_)
  refine lv_aload_n hx hb dX11_readNumber_7 rfl (lv_at hl 1 rfl) ?_
  refine va_get (D := (dC, dI)) (ci := 11) (v := .int (y3 8)) (C := RX11) (T := TX11) (N := 61) hx hb hts hin11 hown hK hP 1 rfl rfl 22 (by decide) hw_0 (fun _ h9 => h9) rfl dX11_readNumber_8 ?_
  refine lv_if_ne (tgt := 18) hx hb dX11_readNumber_11 (by decide) (fun c8 => ?_) (fun c8 => ?_)
  · have b9 : iv 1 5 (y3 8) := iv_neLo c8 (hq4 8 : iv 0 5 (y3 8)) (iv_k (by decide) (by decide) : iv 0 0 0) (by decide) (by decide)
    refine lv_iload_n hx hb dX11_readNumber_18 rfl (lv_at hl 0 rfl) ?_
    have hP9 := hP.sub (ws' := [(m0, .inr (11, oX11 ra y3)), (ra 13, .inl (kI, 700, .inl q_tape))]) [1, 0] rfl
    have hD9 := hD.sub (ws' := [(m0, .inr (11, oX11 ra y3)), (ra 13, .inl (kI, 700, .inl q_tape))]) [1, 0] (by decide) rfl
    exact W.iret (v := r1) hx hb hr (fun t ht hW => ⟨⟨r1, (), rfl, w2, y3, hq4, (show (x0 2).toInt ≤ (y3 2).toInt from by omega), (show y3 3 = x0 3 from hq6), (show y3 1 = x0 1 from hq7), by rw [ht]; exact hP9, hD9⟩, hS.F ht⟩) hS.2.2 dX11_readNumber_19
  · have b10 : iv 0 0 (y3 8) := iv_eqL c8 (iv_k (by decide) (by decide) : iv 0 0 0)
    refine lv_aload_n hx hb dX11_readNumber_14 rfl (lv_at hl 1 rfl) ?_
    have hPc := hP.sub (ws' := [(m0, .inr (11, oX11 ra y3)), (ra 13, .inl (kI, 700, .inl q_tape))]) [1, 0] rfl
    have hDc := hD.sub (ws' := [(m0, .inr (11, oX11 ra y3)), (ra 13, .inl (kI, 700, .inl q_tape))]) [1, 0] (by decide) rfl
    have hFc := va_free (wc := [(m0, .inr (11, oX11 ra y3)), (ra 13, .inl (kI, 700, .inl q_tape))]) hD hS hA [1, 0] rfl
    refine va_callv (va_runV (As := []) (rest := []) ⟨hx, hb, hml, hown, hts⟩ (s11_stepOn l dC dI kB kI kJ kZ kC kS H.size m0 ra y3 q_tape (hq4) (hq_tape)) (cwV 0 hts gX11_readNumber_X11_stepOn rfl rfl rfl (by decide +kernel) ⟨Nat.le_of_ble_eq_true rfl, Nat.le_of_ble_eq_true rfl⟩) ⟨fun a U g mk q => by obtain ⟨q0, q1, qP, qE, qD⟩ := q; exact ⟨q0, q1, qP, kE_call qE, qD⟩, va_recv hK hP (ci := 11) (q0 := 1) rfl rfl, fun U hU hW => ⟨rfl, by rw [hU], by rw [hU]; exact hPc, kE_warm hW hE, hDc.weaken (fun _ _ _ _ => trivial)⟩⟩ rfl rfl hl.1 rfl (lv_room (Nat.le_of_ble_eq_true rfl)) dX11_readNumber_15 ⟨Nat.le_of_ble_eq_true rfl, Nat.le_of_ble_eq_true rfl⟩) hS (fun q _ h => hFc q h) hFc (fun u t H1 locs ht hvm w12 hB hz1 hk1 hS => ?_)
    obtain ⟨y13, hq14, hq15, hq16, hq17, hq18, hP1, hD1⟩ := hB
    rw [ht] at hP1
    try dsimp only at w12
    obtain ⟨hP, hD⟩ := va_join (wr := []) (w1 := [(m0, .inr (11, oX11 ra y13)), (ra 13, .inl (kI, 700, .inl q_tape))]) hP hD [1, 0] [] rfl rfl (by decide) (by decide) hk1 hFc hP1 hD1
    generalize H1 = H at hP hS ⊢
    have hP : va_P (dC, dI) vwCl [(m0, .inr (11, oX11 ra y13)), (ra 13, .inl (kI, 700, .inl q_tape))] H := hP
    have hD : va_D A [(m0, .inr (11, oX11 ra y13)), (ra 13, .inl (kI, 700, .inl q_tape))] := hD
    refine W.widen (k := 0) (n := 0) (Nat.le_of_ble_eq_true rfl) (Nat.le_of_ble_eq_true rfl) ?_
    refine lv_iload_n hx hb dX11_readNumber_18 rfl (lv_at hl 0 rfl) ?_
    have hP9 := hP.sub (ws' := [(m0, .inr (11, oX11 ra y13)), (ra 13, .inl (kI, 700, .inl q_tape))]) [0, 1] rfl
    have hD9 := hD.sub (ws' := [(m0, .inr (11, oX11 ra y13)), (ra 13, .inl (kI, 700, .inl q_tape))]) [0, 1] (by decide) rfl
    exact W.iret (v := r1) hx hb hr (fun t ht hW => ⟨⟨r1, (), rfl, w2, y13, hq14, (show (x0 2).toInt ≤ (y13 2).toInt from by omega), (show y13 3 = x0 3 from hq16.trans (hq6)), (show y13 1 = x0 1 from hq18.trans (hq7)), by rw [ht]; exact hP9, hD9⟩, hS.F ht⟩) hS.2.2 dX11_readNumber_19
def rm_s11_routerNow : Room := { frames := 2, cells := 0, slots := 0, locals := 43 }
set_option maxHeartbeats 4000000 in
set_option maxRecDepth 100000 in
theorem s11_routerNow (l : Launch) (dC : Nat → ClassId) (dI : Nat → Nat → Nat) (kB kI kJ kZ kC kS : ClassId) (sz : Nat) (m0 : Nat) (ra : Nat → Nat) (x0 : Nat → Int32) (q_told : Nat → Int32) (hX : fI lX11 hX11 x0) (hq_told : fI lTold hTold q_told) : Met l yX11_routerNow wsX11_routerNow rm_s11_routerNow (va_Pc [.ref m0] (fun U => U.heap.size = sz ∧ va_P (dC, dI) vwCl [(m0, .inr (11, oX11 ra x0)), (ra 2, .inl (kI, 8, .inl q_told))] U.heap ∧ kE dC dI kB kI kJ kZ kC kS U ∧ va_D (fun _ => True) [(m0, .inr (11, oX11 ra x0)), (ra 2, .inl (kI, 8, .inl q_told))])) (va_Qi (fun (r : Int32) (_ : Unit) => iv 0 11 r) (fun _ t => ∃ (x0' : Nat → Int32), fI lX11 hX11 x0' ∧ ((x0' 2).toInt = (x0 2).toInt) ∧ (x0' 3 = x0 3) ∧ (x0' 1 = x0 1) ∧ va_P (dC, dI) vwCl [(m0, .inr (11, oX11 ra x0')), (ra 2, .inl (kI, 8, .inl q_told))] t.heap ∧ va_D (va_A [(m0, .inr (11, oX11 ra x0)), (ra 2, .inl (kI, 8, .inl q_told))] sz) [(m0, .inr (11, oX11 ra x0')), (ra 2, .inl (kI, 8, .inl q_told))]) (va_A [(m0, .inr (11, oX11 ra x0)), (ra 2, .inl (kI, 8, .inl q_told))] sz)) 0 0 (va_A [(m0, .inr (11, oX11 ra x0)), (ra 2, .inl (kI, 8, .inl q_told))] sz) := by
  refine Met.ofW (cc := cX11_routerNow) (maxL := 2) (ret := (some .int)) (by decide) rfl ?_
  intro p e s m args0 below meth c s₁ B hml hv
  obtain ⟨hargs, hsz, hP, hE, hD0⟩ := hv
  have hx := B.exec
  have hb := B.bytes
  have hr := B.returns
  have hts := atoms_spec (ws := wsX11_routerNow) B.pre
  have hown : s.vm.findClass RX11 = some m.cls := findClass_of_methodNamed B.named
  have hlocks := B.notSynchronized
  have hK := hE.1
  have hin11 : ∀ w ∈ wsX110, w ∈ wsX11_routerNow := fun _ h9 => List.mem_cons_of_mem _ (List.mem_append_right _ h9)
  have hw_0 := hts (.fieldLink RX11 184 "PathProberModel" "bad" "I") (List.mem_of_getElem? (i := 1) (by decide +kernel))
  have hw_1 := hts (.fieldLink RX11 34 "PathProberModel" "told" "[I") (List.mem_of_getElem? (i := 2) (by decide +kernel))
  subst hsz
  have hD := hD0.self (sz := s.heap.size)
  generalize hAe : va_A [(m0, .inr (11, oX11 ra x0)), (ra 2, .inl (kI, 8, .inl q_told))] s.heap.size = A at hD ⊢
  have hA : ∀ q : Nat, s.heap.size ≤ q → A q := fun q h => by rw [← hAe]; exact Or.inr h
  have hS : va_S A s.heap s.heap [] := va_S.rf
  have hP : va_P (dC, dI) vwCl [(m0, .inr (11, oX11 ra x0)), (ra 2, .inl (kI, 8, .inl q_told))] s.heap := hP
  have hl := lv_entry ([.ref m0]) (n := 2) (Nat.le_of_ble_eq_true rfl)
  have hla : entryFrame m args0 2 = entryFrame m ([.ref m0] : List Value).toArray 2 := by rw [hargs]
  rw [hla, lg_entry_eq]
  generalize (lg_sl ([.ref m0]) ++ List.replicate (2 - (lg_sl ([.ref m0])).length) Slot.unset).toArray = ls at hl ⊢
  have hl : lv_has ls 2 [(0, .ref m0)] := hl
  refine lv_aload_n hx hb dX11_routerNow_0 rfl (lv_at hl 0 rfl) ?_
  refine lv_iconst (v := 0) hx hb dX11_routerNow_1 (by decide) ?_
  refine lv_bipush (v := 11) hx hb dX11_routerNow_2 (by decide) ?_
  have hPc := hP.sub (ws' := [(m0, .inr (11, oX11 ra x0))]) [0] rfl
  have hDc := hD.sub (ws' := [(m0, .inr (11, oX11 ra x0))]) [0] (by decide) rfl
  have hFc := va_free (wc := [(m0, .inr (11, oX11 ra x0))]) hD hS hA [0] rfl
  refine va_calli (va_runV (As := [.int 0, .int 11]) (rest := []) ⟨hx, hb, hml, hown, hts⟩ (s11_numberNow_0_11 l dC dI kB kI kJ kZ kC kS s.heap.size m0 ra x0 (hX)) (cwV 2 hts gX11_routerNow_X11_numberNow rfl rfl rfl (by decide +kernel) ⟨Nat.le_of_ble_eq_true rfl, Nat.le_of_ble_eq_true rfl⟩) ⟨fun a U g mk q => by obtain ⟨q0, q1, qP, qE, qD⟩ := q; exact ⟨q0, q1, qP, kE_call qE, qD⟩, va_recv hK hP (ci := 11) (q0 := 0) rfl rfl, fun U hU hW => ⟨rfl, by rw [hU], by rw [hU]; exact hPc, kE_warm hW hE, hDc.weaken (fun _ _ _ _ => trivial)⟩⟩ rfl rfl hl.1 rfl (lv_room (Nat.le_of_ble_eq_true rfl)) dX11_routerNow_4 ⟨Nat.le_of_ble_eq_true rfl, Nat.le_of_ble_eq_true rfl⟩) hS (fun q _ h => hFc q h) hFc (fun r1 u t H1 locs ht hvm w2 hB hz1 hk1 hS => ?_)
  obtain ⟨y3, hq4, hq5, hq6, hq7, hP1, hD1⟩ := hB
  rw [ht] at hP1
  try dsimp only at w2
  obtain ⟨hP, hD⟩ := va_join (wr := [(ra 2, .inl (kI, 8, .inl q_told))]) (w1 := [(m0, .inr (11, oX11 ra y3))]) hP hD [0] [1] rfl rfl (by decide) (by decide) hk1 hFc hP1 hD1
  generalize H1 = H at hP hS ⊢
  have hP : va_P (dC, dI) vwCl [(ra 2, .inl (kI, 8, .inl q_told)), (m0, .inr (11, oX11 ra y3))] H := hP
  have hD : va_D A [(ra 2, .inl (kI, 8, .inl q_told)), (m0, .inr (11, oX11 ra y3))] := hD
  refine W.widen (k := 0) (n := 0) (Nat.le_of_ble_eq_true rfl) (Nat.le_of_ble_eq_true rfl) ?_
  refine lv_istore_n (lv' := [(1, .int r1), (0, .ref m0)]) hx hb dX11_routerNow_7 rfl hl (by decide) rfl (fun ls hl => ?_)
  refine lv_aload_n hx hb dX11_routerNow_8 rfl (lv_at hl 1 rfl) ?_
  refine va_get (D := (dC, dI)) (ci := 11) (v := .int (y3 8)) (C := RX11) (T := TX11) (N := 61) hx hb hts hin11 hown hK hP 1 rfl rfl 22 (by decide) hw_0 (fun _ h9 => h9) rfl dX11_routerNow_9 ?_
  refine lv_if_ne (tgt := 30) hx hb dX11_routerNow_12 (by decide) (fun c8 => ?_) (fun c8 => ?_)
  · have b9 : iv 1 5 (y3 8) := iv_neLo c8 (hq4 8 : iv 0 5 (y3 8)) (iv_k (by decide) (by decide) : iv 0 0 0) (by decide) (by decide)
    refine lv_iload_n hx hb dX11_routerNow_30 rfl (lv_at hl 0 rfl) ?_
    have hP9 := hP.sub (ws' := [(m0, .inr (11, oX11 ra y3)), (ra 2, .inl (kI, 8, .inl q_told))]) [1, 0] rfl
    have hD9 := hD.sub (ws' := [(m0, .inr (11, oX11 ra y3)), (ra 2, .inl (kI, 8, .inl q_told))]) [1, 0] (by decide) rfl
    exact W.iret (v := r1) hx hb hr (fun t ht hW => ⟨⟨r1, (), rfl, w2, y3, hq4, (show (y3 2).toInt = (x0 2).toInt from by omega), (show y3 3 = x0 3 from hq6), (show y3 1 = x0 1 from hq7), by rw [ht]; exact hP9, hD9⟩, hS.F ht⟩) hS.2.2 dX11_routerNow_31
  · have b10 : iv 0 0 (y3 8) := iv_eqL c8 (iv_k (by decide) (by decide) : iv 0 0 0)
    refine lv_iload_n hx hb dX11_routerNow_15 rfl (lv_at hl 0 rfl) ?_
    refine lv_aload_n hx hb dX11_routerNow_16 rfl (lv_at hl 1 rfl) ?_
    refine va_get (D := (dC, dI)) (ci := 11) (v := .ref (ra 2)) (C := RX11) (T := TX11) (N := 61) hx hb hts hin11 hown hK hP 1 rfl rfl 3 (by decide) hw_1 (fun _ h9 => h9) rfl dX11_routerNow_17 ?_
    refine lv_iconst (v := 4) hx hb dX11_routerNow_20 (by decide) ?_
    refine va_iald hx hb hK hP 0 1 rfl rfl (vp_in_nI (n := 4) (by decide) (by decide)) dX11_routerNow_21 ?_
    refine W.eq (g2 := F0 m 22 ls [.int (q_told 4), .int r1]) rfl ?_
    refine lv_icmp_lt (tgt := 30) hx hb dX11_routerNow_22 (by decide) (fun c11 => ?_) (fun c11 => ?_)
    · have b12 : iv 1 12 (q_told 4) := iv_ltR c11 w2 (hq_told 4 : iv 0 12 (q_told 4)) (by decide) (by decide)
      refine lv_iload_n hx hb dX11_routerNow_30 rfl (lv_at hl 0 rfl) ?_
      have hP9 := hP.sub (ws' := [(m0, .inr (11, oX11 ra y3)), (ra 2, .inl (kI, 8, .inl q_told))]) [1, 0] rfl
      have hD9 := hD.sub (ws' := [(m0, .inr (11, oX11 ra y3)), (ra 2, .inl (kI, 8, .inl q_told))]) [1, 0] (by decide) rfl
      exact W.iret (v := r1) hx hb hr (fun t ht hW => ⟨⟨r1, (), rfl, w2, y3, hq4, (show (y3 2).toInt = (x0 2).toInt from by omega), (show y3 3 = x0 3 from hq6), (show y3 1 = x0 1 from hq7), by rw [ht]; exact hP9, hD9⟩, hS.F ht⟩) hS.2.2 dX11_routerNow_31
    · have b13 : iv 0 11 (q_told 4) := iv_leL (Int32.not_lt.mp c11) (hq_told 4 : iv 0 12 (q_told 4)) w2 (by decide) (by decide)
      refine lv_aload_n hx hb dX11_routerNow_25 rfl (lv_at hl 1 rfl) ?_
      refine lv_iconst (v := 3) hx hb dX11_routerNow_26 (by decide) ?_
      have hPc := hP.sub (ws' := [(m0, .inr (11, oX11 ra y3))]) [1] rfl
      have hDc := hD.sub (ws' := [(m0, .inr (11, oX11 ra y3))]) [1] (by decide) rfl
      have hFc := va_free (wc := [(m0, .inr (11, oX11 ra y3))]) hD hS hA [1] rfl
      refine va_callv (va_runV (As := [.int 3]) (rest := []) ⟨hx, hb, hml, hown, hts⟩ (s11_wrong l dC dI kB kI kJ kZ kC kS H.size m0 ra y3 3 (hq4) ((iv_w (iv_k (by decide) (by decide) : iv 3 3 3) (by decide) (by decide)))) (cwV 1 hts gX11_routerNow_X11_wrong rfl rfl rfl (by decide +kernel) ⟨Nat.le_of_ble_eq_true rfl, Nat.le_of_ble_eq_true rfl⟩) ⟨fun a U g mk q => by obtain ⟨q0, q1, qP, qE, qD⟩ := q; exact ⟨q0, q1, qP, kE_call qE, qD⟩, va_recv hK hP (ci := 11) (q0 := 1) rfl rfl, fun U hU hW => ⟨rfl, by rw [hU], by rw [hU]; exact hPc, kE_warm hW hE, hDc.weaken (fun _ _ _ _ => trivial)⟩⟩ rfl rfl hl.1 rfl (lv_room (Nat.le_of_ble_eq_true rfl)) dX11_routerNow_27 ⟨Nat.le_of_ble_eq_true rfl, Nat.le_of_ble_eq_true rfl⟩) hS (fun q _ h => hFc q h) hFc (fun u t H1 locs ht hvm w15 hB hz1 hk1 hS => ?_)
      obtain ⟨y16, hq17, hq18, hq19, hq20, hq21, hP1, hD1⟩ := hB
      rw [ht] at hP1
      try dsimp only at w15
      obtain ⟨hP, hD⟩ := va_join (wr := [(ra 2, .inl (kI, 8, .inl q_told))]) (w1 := [(m0, .inr (11, oX11 ra y16))]) hP hD [1] [0] rfl rfl (by decide) (by decide) hk1 hFc hP1 hD1
      generalize H1 = H at hP hS ⊢
      have hP : va_P (dC, dI) vwCl [(ra 2, .inl (kI, 8, .inl q_told)), (m0, .inr (11, oX11 ra y16))] H := hP
      have hD : va_D A [(ra 2, .inl (kI, 8, .inl q_told)), (m0, .inr (11, oX11 ra y16))] := hD
      refine W.widen (k := 0) (n := 0) (Nat.le_of_ble_eq_true rfl) (Nat.le_of_ble_eq_true rfl) ?_
      refine lv_iload_n hx hb dX11_routerNow_30 rfl (lv_at hl 0 rfl) ?_
      have hP9 := hP.sub (ws' := [(m0, .inr (11, oX11 ra y16)), (ra 2, .inl (kI, 8, .inl q_told))]) [1, 0] rfl
      have hD9 := hD.sub (ws' := [(m0, .inr (11, oX11 ra y16)), (ra 2, .inl (kI, 8, .inl q_told))]) [1, 0] (by decide) rfl
      exact W.iret (v := r1) hx hb hr (fun t ht hW => ⟨⟨r1, (), rfl, w2, y16, hq17, (show (y16 2).toInt = (x0 2).toInt from by omega), (show y16 3 = x0 3 from hq20.trans (hq6)), (show y16 1 = x0 1 from hq21.trans (hq7)), by rw [ht]; exact hP9, hD9⟩, hS.F ht⟩) hS.2.2 dX11_routerNow_31
def rm_s11_readRouter : Room := { frames := 6, cells := 0, slots := 0, locals := 130 }
set_option maxHeartbeats 4000000 in
set_option maxRecDepth 100000 in
theorem s11_readRouter (l : Launch) (dC : Nat → ClassId) (dI : Nat → Nat → Nat) (kB kI kJ kZ kC kS : ClassId) (sz : Nat) (adK : Nat → Nat) (adV : Nat → Nat) (m0 : Nat) (ra : Nat → Nat) (x0 : Nat → Int32) (q_told : Nat → Int32) (q_kind : Nat → Int32) (q_salt : Nat → Int32) (q_pace : Nat → Int32) (q_mute : Nat → Int32) (q_late : Nat → Int32) (q_from : Nat → Int32) (q_to : Nat → Int32) (q_tape : Nat → Int32) (q_words : Nat → Option Nat) (q_kinds : Nat → Option Nat) (hX : fI lX11 hX11 x0) (hq_told : fI lTold hTold q_told) (hq_salt : fI (fun _ => 0) (fun _ => 15) q_salt) (hq_tape : fI (fun _ => 0) (fun _ => 255) q_tape) (hLT : ∀ j : Nat, (j : Int) < (q_told 1).toInt → (q_from j).toInt < (q_to j).toInt) (hLD : ∀ j : Nat, (j : Int) < (q_told 5).toInt → (q_from (20 + j)).toInt < (q_to (20 + j)).toInt) (hwo : ∀ k, k < 4 → q_words k = some (adK (0 + k))) (hki : ∀ k, k < 4 → q_kinds k = some (adK (4 + k))) : Met l yX11_readRouter wsX11_readRouter rm_s11_readRouter (va_Pc [.ref m0] (fun U => U.heap.size = sz ∧ va_P (dC, dI) vwCl [(m0, .inr (11, oX11 ra x0)), (ra 2, .inl (kI, 8, .inl q_told)), (ra 3, .inl (kI, 24, .inl q_kind)), (ra 4, .inl (kI, 24, .inl q_salt)), (ra 5, .inl (kI, 24, .inl q_pace)), (ra 6, .inl (kI, 24, .inl q_mute)), (ra 7, .inl (kI, 24, .inl q_late)), (ra 13, .inl (kI, 700, .inl q_tape)), (ra 1, .inl (kS, 4, .inr (.inr (.inr (.inr q_kinds)))))] U.heap ∧ kE dC dI kB kI kJ kZ kC kS U ∧ va_D (fun _ => True) [(m0, .inr (11, oX11 ra x0)), (ra 2, .inl (kI, 8, .inl q_told)), (ra 3, .inl (kI, 24, .inl q_kind)), (ra 4, .inl (kI, 24, .inl q_salt)), (ra 5, .inl (kI, 24, .inl q_pace)), (ra 6, .inl (kI, 24, .inl q_mute)), (ra 7, .inl (kI, 24, .inl q_late)), (ra 13, .inl (kI, 700, .inl q_tape)), (ra 1, .inl (kS, 4, .inr (.inr (.inr (.inr q_kinds)))))] ∧ kL adK adV (va_A [(m0, .inr (11, oX11 ra x0)), (ra 2, .inl (kI, 8, .inl q_told)), (ra 3, .inl (kI, 24, .inl q_kind)), (ra 4, .inl (kI, 24, .inl q_salt)), (ra 5, .inl (kI, 24, .inl q_pace)), (ra 6, .inl (kI, 24, .inl q_mute)), (ra 7, .inl (kI, 24, .inl q_late)), (ra 13, .inl (kI, 700, .inl q_tape)), (ra 1, .inl (kS, 4, .inr (.inr (.inr (.inr q_kinds)))))] sz) U)) (va_Qv (fun (_ : Unit) => True) (fun _ t => ∃ (x0' : Nat → Int32) (q_told' : Nat → Int32) (q_kind' : Nat → Int32) (q_salt' : Nat → Int32) (q_pace' : Nat → Int32) (q_mute' : Nat → Int32) (q_late' : Nat → Int32), fI lX11 hX11 x0' ∧ fI lTold hTold q_told' ∧ fI (fun _ => 0) (fun _ => 15) q_salt' ∧ ((x0 2).toInt ≤ (x0' 2).toInt) ∧ (x0' 3 = x0 3) ∧ (∀ j : Nat, (j : Int) < (q_told' 1).toInt → (q_from j).toInt < (q_to j).toInt) ∧ (∀ j : Nat, (j : Int) < (q_told' 5).toInt → (q_from (20 + j)).toInt < (q_to (20 + j)).toInt) ∧ (x0' 1 = x0 1) ∧ va_P (dC, dI) vwCl [(m0, .inr (11, oX11 ra x0')), (ra 2, .inl (kI, 8, .inl q_told')), (ra 3, .inl (kI, 24, .inl q_kind')), (ra 4, .inl (kI, 24, .inl q_salt')), (ra 5, .inl (kI, 24, .inl q_pace')), (ra 6, .inl (kI, 24, .inl q_mute')), (ra 7, .inl (kI, 24, .inl q_late')), (ra 13, .inl (kI, 700, .inl q_tape)), (ra 1, .inl (kS, 4, .inr (.inr (.inr (.inr q_kinds)))))] t.heap ∧ va_D (va_A [(m0, .inr (11, oX11 ra x0)), (ra 2, .inl (kI, 8, .inl q_told)), (ra 3, .inl (kI, 24, .inl q_kind)), (ra 4, .inl (kI, 24, .inl q_salt)), (ra 5, .inl (kI, 24, .inl q_pace)), (ra 6, .inl (kI, 24, .inl q_mute)), (ra 7, .inl (kI, 24, .inl q_late)), (ra 13, .inl (kI, 700, .inl q_tape)), (ra 1, .inl (kS, 4, .inr (.inr (.inr (.inr q_kinds)))))] sz) [(m0, .inr (11, oX11 ra x0')), (ra 2, .inl (kI, 8, .inl q_told')), (ra 3, .inl (kI, 24, .inl q_kind')), (ra 4, .inl (kI, 24, .inl q_salt')), (ra 5, .inl (kI, 24, .inl q_pace')), (ra 6, .inl (kI, 24, .inl q_mute')), (ra 7, .inl (kI, 24, .inl q_late')), (ra 13, .inl (kI, 700, .inl q_tape)), (ra 1, .inl (kS, 4, .inr (.inr (.inr (.inr q_kinds)))))]) (va_A [(m0, .inr (11, oX11 ra x0)), (ra 2, .inl (kI, 8, .inl q_told)), (ra 3, .inl (kI, 24, .inl q_kind)), (ra 4, .inl (kI, 24, .inl q_salt)), (ra 5, .inl (kI, 24, .inl q_pace)), (ra 6, .inl (kI, 24, .inl q_mute)), (ra 7, .inl (kI, 24, .inl q_late)), (ra 13, .inl (kI, 700, .inl q_tape)), (ra 1, .inl (kS, 4, .inr (.inr (.inr (.inr q_kinds)))))] sz)) 0 0 (va_A [(m0, .inr (11, oX11 ra x0)), (ra 2, .inl (kI, 8, .inl q_told)), (ra 3, .inl (kI, 24, .inl q_kind)), (ra 4, .inl (kI, 24, .inl q_salt)), (ra 5, .inl (kI, 24, .inl q_pace)), (ra 6, .inl (kI, 24, .inl q_mute)), (ra 7, .inl (kI, 24, .inl q_late)), (ra 13, .inl (kI, 700, .inl q_tape)), (ra 1, .inl (kS, 4, .inr (.inr (.inr (.inr q_kinds)))))] sz) := by
  refine Met.ofW (cc := cX11_readRouter) (maxL := 3) (ret := none) (by decide) rfl ?_
  intro p e s m args0 below meth c s₁ B hml hv
  obtain ⟨hargs, hsz, hP, hE, hD0, hKL⟩ := hv
  have hx := B.exec
  have hb := B.bytes
  have hr := B.returns
  have hts := atoms_spec (ws := wsX11_readRouter) B.pre
  have hown : s.vm.findClass RX11 = some m.cls := findClass_of_methodNamed B.named
  have hlocks := B.notSynchronized
  have hK := hE.1
  have hin11 : ∀ w ∈ wsX110, w ∈ wsX11_readRouter := fun _ h9 => List.mem_cons_of_mem _ (List.mem_append_right _ h9)
  have hw_0 := hts (.fieldLink RX11 34 "PathProberModel" "told" "[I") (List.mem_of_getElem? (i := 1) (by decide +kernel))
  have hw_1 := hts (.fieldLink RX11 184 "PathProberModel" "bad" "I") (List.mem_of_getElem? (i := 2) (by decide +kernel))
  have hw_2 := hts (.fieldLink RX11 47 "PathProberModel" "mute" "[I") (List.mem_of_getElem? (i := 7) (by decide +kernel))
  have hw_3 := hts (.fieldLink RX11 50 "PathProberModel" "late" "[I") (List.mem_of_getElem? (i := 8) (by decide +kernel))
  have hw_4 := hts (.fieldLink RX11 38 "PathProberModel" "kind" "[I") (List.mem_of_getElem? (i := 4) (by decide +kernel))
  have hw_5 := hts (.fieldLink RX11 41 "PathProberModel" "salt" "[I") (List.mem_of_getElem? (i := 5) (by decide +kernel))
  have hw_6 := hts (.fieldLink RX11 44 "PathProberModel" "pace" "[I") (List.mem_of_getElem? (i := 6) (by decide +kernel))
  have hw_7 := hts (.fieldLink RX11 31 "PathProberModel" "kinds" "[Ljava/lang/String;") (List.mem_of_getElem? (i := 3) (by decide +kernel))
  subst hsz
  have hD := hD0.self (sz := s.heap.size)
  generalize hAe : va_A [(m0, .inr (11, oX11 ra x0)), (ra 2, .inl (kI, 8, .inl q_told)), (ra 3, .inl (kI, 24, .inl q_kind)), (ra 4, .inl (kI, 24, .inl q_salt)), (ra 5, .inl (kI, 24, .inl q_pace)), (ra 6, .inl (kI, 24, .inl q_mute)), (ra 7, .inl (kI, 24, .inl q_late)), (ra 13, .inl (kI, 700, .inl q_tape)), (ra 1, .inl (kS, 4, .inr (.inr (.inr (.inr q_kinds)))))] s.heap.size = A at hD hKL ⊢
  have hA : ∀ q : Nat, s.heap.size ≤ q → A q := fun q h => by rw [← hAe]; exact Or.inr h
  have hS : va_S A s.heap s.heap [] := va_S.rf
  have hP : va_P (dC, dI) vwCl [(m0, .inr (11, oX11 ra x0)), (ra 2, .inl (kI, 8, .inl q_told)), (ra 3, .inl (kI, 24, .inl q_kind)), (ra 4, .inl (kI, 24, .inl q_salt)), (ra 5, .inl (kI, 24, .inl q_pace)), (ra 6, .inl (kI, 24, .inl q_mute)), (ra 7, .inl (kI, 24, .inl q_late)), (ra 13, .inl (kI, 700, .inl q_tape)), (ra 1, .inl (kS, 4, .inr (.inr (.inr (.inr q_kinds)))))] s.heap := hP
  have hl := lv_entry ([.ref m0]) (n := 3) (Nat.le_of_ble_eq_true rfl)
  have hla : entryFrame m args0 3 = entryFrame m ([.ref m0] : List Value).toArray 3 := by rw [hargs]
  rw [hla, lg_entry_eq]
  generalize (lg_sl ([.ref m0]) ++ List.replicate (3 - (lg_sl ([.ref m0])).length) Slot.unset).toArray = ls at hl ⊢
  have hl : lv_has ls 3 [(0, .ref m0)] := hl
  have hJ168 : ∀ (y168_0 : Nat → Int32) (g168_2 : Nat → Int32) (g168_3 : Nat → Int32) (g168_4 : Nat → Int32) (g168_5 : Nat → Int32) (g168_6 : Nat → Int32) (v168_loc1 : Int32) (v168_loc2 : Int32) (H : Heap) (locs : List Loc) (ls : Array Slot), fI lX11 hX11 y168_0 → fI (fun _ => 0) (fun _ => 15) g168_3 → iv 12 23 v168_loc1 → iv (-1) 3 v168_loc2 → iv 0 11 (q_told 4) → iv 0 0 (x0 8) → ((x0 2).toInt ≤ (y168_0 2).toInt) → (y168_0 3 = x0 3) → (y168_0 1 = x0 1) → va_P (dC, dI) vwCl [(m0, .inr (11, oX11 ra y168_0)), (ra 2, .inl (kI, 8, .inl q_told)), (ra 3, .inl (kI, 24, .inl g168_2)), (ra 4, .inl (kI, 24, .inl g168_3)), (ra 5, .inl (kI, 24, .inl g168_4)), (ra 6, .inl (kI, 24, .inl g168_5)), (ra 7, .inl (kI, 24, .inl g168_6)), (ra 13, .inl (kI, 700, .inl q_tape)), (ra 1, .inl (kS, 4, .inr (.inr (.inr (.inr q_kinds)))))] H → va_D A [(m0, .inr (11, oX11 ra y168_0)), (ra 2, .inl (kI, 8, .inl q_told)), (ra 3, .inl (kI, 24, .inl g168_2)), (ra 4, .inl (kI, 24, .inl g168_3)), (ra 5, .inl (kI, 24, .inl g168_4)), (ra 6, .inl (kI, 24, .inl g168_5)), (ra 7, .inl (kI, 24, .inl g168_6)), (ra 13, .inl (kI, 700, .inl q_tape)), (ra 1, .inl (kS, 4, .inr (.inr (.inr (.inr q_kinds)))))] → va_S A s.heap H locs → lv_has ls 3 [(0, .ref m0), (1, .int v168_loc1), (2, .int v168_loc2)] → W p l e (headSpec wsX11_readRouter rm_s11_readRouter).room s m args0 below meth c H locs (0) (0) (MQ below (va_Qv (fun (_ : Unit) => True) (fun _ t => ∃ (x0' : Nat → Int32) (q_told' : Nat → Int32) (q_kind' : Nat → Int32) (q_salt' : Nat → Int32) (q_pace' : Nat → Int32) (q_mute' : Nat → Int32) (q_late' : Nat → Int32), fI lX11 hX11 x0' ∧ fI lTold hTold q_told' ∧ fI (fun _ => 0) (fun _ => 15) q_salt' ∧ ((x0 2).toInt ≤ (x0' 2).toInt) ∧ (x0' 3 = x0 3) ∧ (∀ j : Nat, (j : Int) < (q_told' 1).toInt → (q_from j).toInt < (q_to j).toInt) ∧ (∀ j : Nat, (j : Int) < (q_told' 5).toInt → (q_from (20 + j)).toInt < (q_to (20 + j)).toInt) ∧ (x0' 1 = x0 1) ∧ va_P (dC, dI) vwCl [(m0, .inr (11, oX11 ra x0')), (ra 2, .inl (kI, 8, .inl q_told')), (ra 3, .inl (kI, 24, .inl q_kind')), (ra 4, .inl (kI, 24, .inl q_salt')), (ra 5, .inl (kI, 24, .inl q_pace')), (ra 6, .inl (kI, 24, .inl q_mute')), (ra 7, .inl (kI, 24, .inl q_late')), (ra 13, .inl (kI, 700, .inl q_tape)), (ra 1, .inl (kS, 4, .inr (.inr (.inr (.inr q_kinds)))))] t.heap ∧ va_D A [(m0, .inr (11, oX11 ra x0')), (ra 2, .inl (kI, 8, .inl q_told')), (ra 3, .inl (kI, 24, .inl q_kind')), (ra 4, .inl (kI, 24, .inl q_salt')), (ra 5, .inl (kI, 24, .inl q_pace')), (ra 6, .inl (kI, 24, .inl q_mute')), (ra 7, .inl (kI, 24, .inl q_late')), (ra 13, .inl (kI, 700, .inl q_tape)), (ra 1, .inl (kS, 4, .inr (.inr (.inr (.inr q_kinds)))))]) A) args0 s 0 0 A) (F0 m 168 ls []) := by
    intro y168_0 g168_2 g168_3 g168_4 g168_5 g168_6 v168_loc1 v168_loc2 H locs ls hI168_0 hI168_3 h168_3 h168_4 h168_5 h168_6 hat_168 hts_168 htp_168 hP hD hS hl
    refine lv_aload_n hx hb dX11_readRouter_168 rfl (lv_at hl 0 rfl) ?_
    refine va_get (D := (dC, dI)) (ci := 11) (v := .ref (ra 2)) (C := RX11) (T := TX11) (N := 61) hx hb hts hin11 hown hK hP 0 rfl rfl 3 (by decide) hw_0 (fun _ h9 => h9) rfl dX11_readRouter_169 ?_
    refine lv_iconst (v := 4) hx hb dX11_readRouter_172 (by decide) ?_
    refine lv_dup2_11 hx hb dX11_readRouter_173 rfl rfl ?_
    refine va_iald hx hb hK hP 1 1 rfl rfl (vp_in_nI (n := 4) (by decide) (by decide)) dX11_readRouter_174 ?_
    refine W.eq (g2 := F0 m 175 ls [.int (q_told 4), .int 4, .ref (ra 2)]) rfl ?_
    refine lv_iconst (v := 1) hx hb dX11_readRouter_175 (by decide) ?_
    refine lv_iadd hx hb dX11_readRouter_176 ?_
    refine iv_top (a := 1) (b := 12) (iv_add h168_5 (iv_k (by decide) (by decide) : iv 1 1 1) (by decide) (by decide) (by decide) (by decide)) (fun z1 b2 => ?_)
    refine va_iast hx hb hK hP hD hS 1 1 rfl rfl (vp_in_nI (n := 4) (by decide) (by decide)) dX11_readRouter_177 (fun H locs hP hD hS => ?_)
    have hP : va_P (dC, dI) vwCl [(m0, .inr (11, oX11 ra y168_0)), (ra 2, .inl (kI, 8, .inl (upd q_told 4 z1))), (ra 3, .inl (kI, 24, .inl g168_2)), (ra 4, .inl (kI, 24, .inl g168_3)), (ra 5, .inl (kI, 24, .inl g168_4)), (ra 6, .inl (kI, 24, .inl g168_5)), (ra 7, .inl (kI, 24, .inl g168_6)), (ra 13, .inl (kI, 700, .inl q_tape)), (ra 1, .inl (kS, 4, .inr (.inr (.inr (.inr q_kinds)))))] H := hP
    have hD : va_D A [(m0, .inr (11, oX11 ra y168_0)), (ra 2, .inl (kI, 8, .inl (upd q_told 4 z1))), (ra 3, .inl (kI, 24, .inl g168_2)), (ra 4, .inl (kI, 24, .inl g168_3)), (ra 5, .inl (kI, 24, .inl g168_4)), (ra 6, .inl (kI, 24, .inl g168_5)), (ra 7, .inl (kI, 24, .inl g168_6)), (ra 13, .inl (kI, 700, .inl q_tape)), (ra 1, .inl (kS, 4, .inr (.inr (.inr (.inr q_kinds)))))] := hD
    have hP9 := hP.sub (ws' := [(m0, .inr (11, oX11 ra y168_0)), (ra 2, .inl (kI, 8, .inl (upd q_told 4 z1))), (ra 3, .inl (kI, 24, .inl g168_2)), (ra 4, .inl (kI, 24, .inl g168_3)), (ra 5, .inl (kI, 24, .inl g168_4)), (ra 6, .inl (kI, 24, .inl g168_5)), (ra 7, .inl (kI, 24, .inl g168_6)), (ra 13, .inl (kI, 700, .inl q_tape)), (ra 1, .inl (kS, 4, .inr (.inr (.inr (.inr q_kinds)))))]) [0, 1, 2, 3, 4, 5, 6, 7, 8] rfl
    have hD9 := hD.sub (ws' := [(m0, .inr (11, oX11 ra y168_0)), (ra 2, .inl (kI, 8, .inl (upd q_told 4 z1))), (ra 3, .inl (kI, 24, .inl g168_2)), (ra 4, .inl (kI, 24, .inl g168_3)), (ra 5, .inl (kI, 24, .inl g168_4)), (ra 6, .inl (kI, 24, .inl g168_5)), (ra 7, .inl (kI, 24, .inl g168_6)), (ra 13, .inl (kI, 700, .inl q_tape)), (ra 1, .inl (kS, 4, .inr (.inr (.inr (.inr q_kinds)))))]) [0, 1, 2, 3, 4, 5, 6, 7, 8] (by decide +kernel) rfl
    exact W.vret hx hb hr (fun t ht hW => ⟨⟨(), rfl, trivial, y168_0, upd q_told 4 z1, g168_2, g168_3, g168_4, g168_5, g168_6, hI168_0, (fI_u hq_told (k := 4) ((iv_w b2 (by decide) (by decide)))), hI168_3, (show (x0 2).toInt ≤ (y168_0 2).toInt from by omega), (show y168_0 3 = x0 3 from hts_168), (show ∀ j : Nat, (j : Int) < (q_told 1).toInt → (q_from j).toInt < (q_to j).toInt from hLT), (show ∀ j : Nat, (j : Int) < (q_told 5).toInt → (q_from (20 + j)).toInt < (q_to (20 + j)).toInt from hLD), (show y168_0 1 = x0 1 from htp_168), by rw [ht]; exact hP9, hD9⟩, hS.F ht⟩) hS.2.2 dX11_readRouter_178
  have hJ140 : ∀ (y140_0 : Nat → Int32) (g140_2 : Nat → Int32) (g140_3 : Nat → Int32) (g140_4 : Nat → Int32) (g140_5 : Nat → Int32) (v140_loc1 : Int32) (v140_loc2 : Int32) (v140_stk0 : Int32) (v140_stk1 : Int32) (H : Heap) (locs : List Loc) (ls : Array Slot), fI lX11 hX11 y140_0 → fI (fun _ => 0) (fun _ => 15) g140_3 → iv 12 23 v140_loc1 → iv (-1) 3 v140_loc2 → iv 0 1 v140_stk0 → iv 12 23 v140_stk1 → iv 0 11 (q_told 4) → iv 0 0 (x0 8) → ((x0 2).toInt ≤ (y140_0 2).toInt) → (y140_0 3 = x0 3) → (y140_0 1 = x0 1) → va_P (dC, dI) vwCl [(m0, .inr (11, oX11 ra y140_0)), (ra 2, .inl (kI, 8, .inl q_told)), (ra 3, .inl (kI, 24, .inl g140_2)), (ra 4, .inl (kI, 24, .inl g140_3)), (ra 5, .inl (kI, 24, .inl g140_4)), (ra 6, .inl (kI, 24, .inl g140_5)), (ra 7, .inl (kI, 24, .inl q_late)), (ra 13, .inl (kI, 700, .inl q_tape)), (ra 1, .inl (kS, 4, .inr (.inr (.inr (.inr q_kinds)))))] H → va_D A [(m0, .inr (11, oX11 ra y140_0)), (ra 2, .inl (kI, 8, .inl q_told)), (ra 3, .inl (kI, 24, .inl g140_2)), (ra 4, .inl (kI, 24, .inl g140_3)), (ra 5, .inl (kI, 24, .inl g140_4)), (ra 6, .inl (kI, 24, .inl g140_5)), (ra 7, .inl (kI, 24, .inl q_late)), (ra 13, .inl (kI, 700, .inl q_tape)), (ra 1, .inl (kS, 4, .inr (.inr (.inr (.inr q_kinds)))))] → va_S A s.heap H locs → lv_has ls 3 [(0, .ref m0), (1, .int v140_loc1), (2, .int v140_loc2)] → W p l e (headSpec wsX11_readRouter rm_s11_readRouter).room s m args0 below meth c H locs (0) (0) (MQ below (va_Qv (fun (_ : Unit) => True) (fun _ t => ∃ (x0' : Nat → Int32) (q_told' : Nat → Int32) (q_kind' : Nat → Int32) (q_salt' : Nat → Int32) (q_pace' : Nat → Int32) (q_mute' : Nat → Int32) (q_late' : Nat → Int32), fI lX11 hX11 x0' ∧ fI lTold hTold q_told' ∧ fI (fun _ => 0) (fun _ => 15) q_salt' ∧ ((x0 2).toInt ≤ (x0' 2).toInt) ∧ (x0' 3 = x0 3) ∧ (∀ j : Nat, (j : Int) < (q_told' 1).toInt → (q_from j).toInt < (q_to j).toInt) ∧ (∀ j : Nat, (j : Int) < (q_told' 5).toInt → (q_from (20 + j)).toInt < (q_to (20 + j)).toInt) ∧ (x0' 1 = x0 1) ∧ va_P (dC, dI) vwCl [(m0, .inr (11, oX11 ra x0')), (ra 2, .inl (kI, 8, .inl q_told')), (ra 3, .inl (kI, 24, .inl q_kind')), (ra 4, .inl (kI, 24, .inl q_salt')), (ra 5, .inl (kI, 24, .inl q_pace')), (ra 6, .inl (kI, 24, .inl q_mute')), (ra 7, .inl (kI, 24, .inl q_late')), (ra 13, .inl (kI, 700, .inl q_tape)), (ra 1, .inl (kS, 4, .inr (.inr (.inr (.inr q_kinds)))))] t.heap ∧ va_D A [(m0, .inr (11, oX11 ra x0')), (ra 2, .inl (kI, 8, .inl q_told')), (ra 3, .inl (kI, 24, .inl q_kind')), (ra 4, .inl (kI, 24, .inl q_salt')), (ra 5, .inl (kI, 24, .inl q_pace')), (ra 6, .inl (kI, 24, .inl q_mute')), (ra 7, .inl (kI, 24, .inl q_late')), (ra 13, .inl (kI, 700, .inl q_tape)), (ra 1, .inl (kS, 4, .inr (.inr (.inr (.inr q_kinds)))))]) A) args0 s 0 0 A) (F0 m 140 ls [.int v140_stk0, .int v140_stk1, .ref (ra 7)]) := by
    intro y140_0 g140_2 g140_3 g140_4 g140_5 v140_loc1 v140_loc2 v140_stk0 v140_stk1 H locs ls hI140_0 hI140_3 h140_3 h140_4 h140_5 h140_6 h140_7 h140_8 hat_140 hts_140 htp_140 hP hD hS hl
    refine va_iast hx hb hK hP hD hS 6 1 rfl rfl (iv_in h140_6 (by decide) (by decide)) dX11_readRouter_140 (fun H locs hP hD hS => ?_)
    have hP : va_P (dC, dI) vwCl [(m0, .inr (11, oX11 ra y140_0)), (ra 2, .inl (kI, 8, .inl q_told)), (ra 3, .inl (kI, 24, .inl g140_2)), (ra 4, .inl (kI, 24, .inl g140_3)), (ra 5, .inl (kI, 24, .inl g140_4)), (ra 6, .inl (kI, 24, .inl g140_5)), (ra 7, .inl (kI, 24, .inl (upd q_late v140_stk1.toNatClampNeg v140_stk0))), (ra 13, .inl (kI, 700, .inl q_tape)), (ra 1, .inl (kS, 4, .inr (.inr (.inr (.inr q_kinds)))))] H := hP
    have hD : va_D A [(m0, .inr (11, oX11 ra y140_0)), (ra 2, .inl (kI, 8, .inl q_told)), (ra 3, .inl (kI, 24, .inl g140_2)), (ra 4, .inl (kI, 24, .inl g140_3)), (ra 5, .inl (kI, 24, .inl g140_4)), (ra 6, .inl (kI, 24, .inl g140_5)), (ra 7, .inl (kI, 24, .inl (upd q_late v140_stk1.toNatClampNeg v140_stk0))), (ra 13, .inl (kI, 700, .inl q_tape)), (ra 1, .inl (kS, 4, .inr (.inr (.inr (.inr q_kinds)))))] := hD
    generalize (upd q_late v140_stk1.toNatClampNeg v140_stk0) = f3 at hP hD
    refine lv_aload_n hx hb dX11_readRouter_141 rfl (lv_at hl 0 rfl) ?_
    refine va_get (D := (dC, dI)) (ci := 11) (v := .int (y140_0 8)) (C := RX11) (T := TX11) (N := 61) hx hb hts hin11 hown hK hP 0 rfl rfl 22 (by decide) hw_1 (fun _ h9 => h9) rfl dX11_readRouter_142 ?_
    refine lv_if_ne (tgt := 168) hx hb dX11_readRouter_145 (by decide) (fun c4 => ?_) (fun c4 => ?_)
    · have b5 : iv 1 5 (y140_0 8) := iv_neLo c4 (hI140_0 8 : iv 0 5 (y140_0 8)) (iv_k (by decide) (by decide) : iv 0 0 0) (by decide) (by decide)
      exact hJ168 y140_0 g140_2 g140_3 g140_4 g140_5 f3 v140_loc1 v140_loc2 _ _ _ (hI140_0) (hI140_3) (h140_3) (h140_4) (h140_7) (h140_8) ((show (x0 2).toInt ≤ (y140_0 2).toInt from by omega)) ((show y140_0 3 = x0 3 from hts_140)) ((show y140_0 1 = x0 1 from htp_140)) (hP.sub [0, 1, 2, 3, 4, 5, 6, 7, 8] rfl) (hD.sub [0, 1, 2, 3, 4, 5, 6, 7, 8] (by decide +kernel) rfl) hS (lv_sub hl [0, 1, 2] rfl)
    · have b6 : iv 0 0 (y140_0 8) := iv_eqL c4 (iv_k (by decide) (by decide) : iv 0 0 0)
      refine lv_aload_n hx hb dX11_readRouter_148 rfl (lv_at hl 0 rfl) ?_
      refine va_get (D := (dC, dI)) (ci := 11) (v := .ref (ra 6)) (C := RX11) (T := TX11) (N := 61) hx hb hts hin11 hown hK hP 0 rfl rfl 7 (by decide) hw_2 (fun _ h9 => h9) rfl dX11_readRouter_149 ?_
      refine lv_iload_n hx hb dX11_readRouter_152 rfl (lv_at hl 1 rfl) ?_
      refine va_iald hx hb hK hP 5 1 rfl rfl (iv_in h140_3 (by decide) (by decide)) dX11_readRouter_153 ?_
      refine lv_topi (fun z7 _ => ?_)
      refine lv_aload_n hx hb dX11_readRouter_154 rfl (lv_at hl 0 rfl) ?_
      refine va_get (D := (dC, dI)) (ci := 11) (v := .ref (ra 7)) (C := RX11) (T := TX11) (N := 61) hx hb hts hin11 hown hK hP 0 rfl rfl 8 (by decide) hw_3 (fun _ h9 => h9) rfl dX11_readRouter_155 ?_
      refine lv_iload_n hx hb dX11_readRouter_158 rfl (lv_at hl 1 rfl) ?_
      refine va_iald hx hb hK hP 6 1 rfl rfl (iv_in h140_3 (by decide) (by decide)) dX11_readRouter_159 ?_
      refine lv_topi (fun z8 _ => ?_)
      refine lv_iadd hx hb dX11_readRouter_160 ?_
      refine lv_topi (fun z9 _ => ?_)
      refine lv_if_le (tgt := 168) hx hb dX11_readRouter_161 (by decide) (fun c10 => ?_) (fun c10 => ?_)
      · have b11 : iv (-2147483648) 0 z9 := iv_leL c10 (iv_t z9) (iv_k (by decide) (by decide) : iv 0 0 0) (by decide) (by decide)
        exact hJ168 y140_0 g140_2 g140_3 g140_4 g140_5 f3 v140_loc1 v140_loc2 _ _ _ (hI140_0) (hI140_3) (h140_3) (h140_4) (h140_7) (h140_8) ((show (x0 2).toInt ≤ (y140_0 2).toInt from by omega)) ((show y140_0 3 = x0 3 from hts_140)) ((show y140_0 1 = x0 1 from htp_140)) (hP.sub [0, 1, 2, 3, 4, 5, 6, 7, 8] rfl) (hD.sub [0, 1, 2, 3, 4, 5, 6, 7, 8] (by decide +kernel) rfl) hS (lv_sub hl [0, 1, 2] rfl)
      · have b12 : iv 1 2147483647 z9 := iv_ltR (Int32.not_le.mp c10) (iv_k (by decide) (by decide) : iv 0 0 0) (iv_t z9) (by decide) (by decide)
        refine lv_aload_n hx hb dX11_readRouter_164 rfl (lv_at hl 0 rfl) ?_
        have hPc := hP.sub (ws' := [(m0, .inr (11, oX11 ra y140_0)), (ra 13, .inl (kI, 700, .inl q_tape))]) [0, 7] rfl
        have hDc := hD.sub (ws' := [(m0, .inr (11, oX11 ra y140_0)), (ra 13, .inl (kI, 700, .inl q_tape))]) [0, 7] (by decide +kernel) rfl
        have hFc := va_free (wc := [(m0, .inr (11, oX11 ra y140_0)), (ra 13, .inl (kI, 700, .inl q_tape))]) hD hS hA [0, 7] rfl
        refine va_callv (va_runV (As := []) (rest := []) ⟨hx, hb, hml, hown, hts⟩ (s11_stepOn l dC dI kB kI kJ kZ kC kS H.size m0 ra y140_0 q_tape (hI140_0) (hq_tape)) (cwV 0 hts gX11_readRouter_X11_stepOn rfl rfl rfl (by decide +kernel) ⟨Nat.le_of_ble_eq_true rfl, Nat.le_of_ble_eq_true rfl⟩) ⟨fun a U g mk q => by obtain ⟨q0, q1, qP, qE, qD⟩ := q; exact ⟨q0, q1, qP, kE_call qE, qD⟩, va_recv hK hP (ci := 11) (q0 := 0) rfl rfl, fun U hU hW => ⟨rfl, by rw [hU], by rw [hU]; exact hPc, kE_warm hW hE, hDc.weaken (fun _ _ _ _ => trivial)⟩⟩ rfl rfl hl.1 rfl (lv_room (Nat.le_of_ble_eq_true rfl)) dX11_readRouter_165 ⟨Nat.le_of_ble_eq_true rfl, Nat.le_of_ble_eq_true rfl⟩) hS (fun q _ h => hFc q h) hFc (fun u t H1 locs ht hvm w14 hB hz1 hk1 hS => ?_)
        obtain ⟨y15, hq16, hq17, hq18, hq19, hq20, hP1, hD1⟩ := hB
        rw [ht] at hP1
        try dsimp only at w14
        obtain ⟨hP, hD⟩ := va_join (wr := [(ra 2, .inl (kI, 8, .inl q_told)), (ra 3, .inl (kI, 24, .inl g140_2)), (ra 4, .inl (kI, 24, .inl g140_3)), (ra 5, .inl (kI, 24, .inl g140_4)), (ra 6, .inl (kI, 24, .inl g140_5)), (ra 7, .inl (kI, 24, .inl f3)), (ra 1, .inl (kS, 4, .inr (.inr (.inr (.inr q_kinds)))))]) (w1 := [(m0, .inr (11, oX11 ra y15)), (ra 13, .inl (kI, 700, .inl q_tape))]) hP hD [0, 7] [1, 2, 3, 4, 5, 6, 8] rfl rfl (by decide +kernel) (by decide +kernel) hk1 hFc hP1 hD1
        generalize H1 = H at hP hS ⊢
        have hP : va_P (dC, dI) vwCl [(ra 2, .inl (kI, 8, .inl q_told)), (ra 3, .inl (kI, 24, .inl g140_2)), (ra 4, .inl (kI, 24, .inl g140_3)), (ra 5, .inl (kI, 24, .inl g140_4)), (ra 6, .inl (kI, 24, .inl g140_5)), (ra 7, .inl (kI, 24, .inl f3)), (ra 1, .inl (kS, 4, .inr (.inr (.inr (.inr q_kinds))))), (m0, .inr (11, oX11 ra y15)), (ra 13, .inl (kI, 700, .inl q_tape))] H := hP
        have hD : va_D A [(ra 2, .inl (kI, 8, .inl q_told)), (ra 3, .inl (kI, 24, .inl g140_2)), (ra 4, .inl (kI, 24, .inl g140_3)), (ra 5, .inl (kI, 24, .inl g140_4)), (ra 6, .inl (kI, 24, .inl g140_5)), (ra 7, .inl (kI, 24, .inl f3)), (ra 1, .inl (kS, 4, .inr (.inr (.inr (.inr q_kinds))))), (m0, .inr (11, oX11 ra y15)), (ra 13, .inl (kI, 700, .inl q_tape))] := hD
        refine W.widen (k := 0) (n := 0) (Nat.le_of_ble_eq_true rfl) (Nat.le_of_ble_eq_true rfl) ?_
        exact hJ168 y15 g140_2 g140_3 g140_4 g140_5 f3 v140_loc1 v140_loc2 _ _ _ (hq16) (hI140_3) (h140_3) (h140_4) (h140_7) (h140_8) ((show (x0 2).toInt ≤ (y15 2).toInt from by omega)) ((show y15 3 = x0 3 from hq18.trans (hts_140))) ((show y15 1 = x0 1 from hq20.trans (htp_140))) (hP.sub [7, 0, 1, 2, 3, 4, 5, 8, 6] rfl) (hD.sub [7, 0, 1, 2, 3, 4, 5, 8, 6] (by decide +kernel) rfl) hS (lv_sub hl [0, 1, 2] rfl)
  have hJ120 : ∀ (y120_0 : Nat → Int32) (g120_2 : Nat → Int32) (g120_3 : Nat → Int32) (g120_4 : Nat → Int32) (v120_loc1 : Int32) (v120_loc2 : Int32) (v120_stk0 : Int32) (v120_stk1 : Int32) (H : Heap) (locs : List Loc) (ls : Array Slot), fI lX11 hX11 y120_0 → fI (fun _ => 0) (fun _ => 15) g120_3 → iv 12 23 v120_loc1 → iv (-1) 3 v120_loc2 → iv 0 1 v120_stk0 → iv 12 23 v120_stk1 → iv 0 11 (q_told 4) → iv 0 0 (x0 8) → ((x0 2).toInt ≤ (y120_0 2).toInt) → (y120_0 3 = x0 3) → (y120_0 1 = x0 1) → va_P (dC, dI) vwCl [(m0, .inr (11, oX11 ra y120_0)), (ra 2, .inl (kI, 8, .inl q_told)), (ra 3, .inl (kI, 24, .inl g120_2)), (ra 4, .inl (kI, 24, .inl g120_3)), (ra 5, .inl (kI, 24, .inl g120_4)), (ra 6, .inl (kI, 24, .inl q_mute)), (ra 7, .inl (kI, 24, .inl q_late)), (ra 13, .inl (kI, 700, .inl q_tape)), (ra 1, .inl (kS, 4, .inr (.inr (.inr (.inr q_kinds)))))] H → va_D A [(m0, .inr (11, oX11 ra y120_0)), (ra 2, .inl (kI, 8, .inl q_told)), (ra 3, .inl (kI, 24, .inl g120_2)), (ra 4, .inl (kI, 24, .inl g120_3)), (ra 5, .inl (kI, 24, .inl g120_4)), (ra 6, .inl (kI, 24, .inl q_mute)), (ra 7, .inl (kI, 24, .inl q_late)), (ra 13, .inl (kI, 700, .inl q_tape)), (ra 1, .inl (kS, 4, .inr (.inr (.inr (.inr q_kinds)))))] → va_S A s.heap H locs → lv_has ls 3 [(0, .ref m0), (1, .int v120_loc1), (2, .int v120_loc2)] → W p l e (headSpec wsX11_readRouter rm_s11_readRouter).room s m args0 below meth c H locs (0) (0) (MQ below (va_Qv (fun (_ : Unit) => True) (fun _ t => ∃ (x0' : Nat → Int32) (q_told' : Nat → Int32) (q_kind' : Nat → Int32) (q_salt' : Nat → Int32) (q_pace' : Nat → Int32) (q_mute' : Nat → Int32) (q_late' : Nat → Int32), fI lX11 hX11 x0' ∧ fI lTold hTold q_told' ∧ fI (fun _ => 0) (fun _ => 15) q_salt' ∧ ((x0 2).toInt ≤ (x0' 2).toInt) ∧ (x0' 3 = x0 3) ∧ (∀ j : Nat, (j : Int) < (q_told' 1).toInt → (q_from j).toInt < (q_to j).toInt) ∧ (∀ j : Nat, (j : Int) < (q_told' 5).toInt → (q_from (20 + j)).toInt < (q_to (20 + j)).toInt) ∧ (x0' 1 = x0 1) ∧ va_P (dC, dI) vwCl [(m0, .inr (11, oX11 ra x0')), (ra 2, .inl (kI, 8, .inl q_told')), (ra 3, .inl (kI, 24, .inl q_kind')), (ra 4, .inl (kI, 24, .inl q_salt')), (ra 5, .inl (kI, 24, .inl q_pace')), (ra 6, .inl (kI, 24, .inl q_mute')), (ra 7, .inl (kI, 24, .inl q_late')), (ra 13, .inl (kI, 700, .inl q_tape)), (ra 1, .inl (kS, 4, .inr (.inr (.inr (.inr q_kinds)))))] t.heap ∧ va_D A [(m0, .inr (11, oX11 ra x0')), (ra 2, .inl (kI, 8, .inl q_told')), (ra 3, .inl (kI, 24, .inl q_kind')), (ra 4, .inl (kI, 24, .inl q_salt')), (ra 5, .inl (kI, 24, .inl q_pace')), (ra 6, .inl (kI, 24, .inl q_mute')), (ra 7, .inl (kI, 24, .inl q_late')), (ra 13, .inl (kI, 700, .inl q_tape)), (ra 1, .inl (kS, 4, .inr (.inr (.inr (.inr q_kinds)))))]) A) args0 s 0 0 A) (F0 m 120 ls [.int v120_stk0, .int v120_stk1, .ref (ra 6)]) := by
    intro y120_0 g120_2 g120_3 g120_4 v120_loc1 v120_loc2 v120_stk0 v120_stk1 H locs ls hI120_0 hI120_3 h120_3 h120_4 h120_5 h120_6 h120_7 h120_8 hat_120 hts_120 htp_120 hP hD hS hl
    refine va_iast hx hb hK hP hD hS 5 1 rfl rfl (iv_in h120_6 (by decide) (by decide)) dX11_readRouter_120 (fun H locs hP hD hS => ?_)
    have hP : va_P (dC, dI) vwCl [(m0, .inr (11, oX11 ra y120_0)), (ra 2, .inl (kI, 8, .inl q_told)), (ra 3, .inl (kI, 24, .inl g120_2)), (ra 4, .inl (kI, 24, .inl g120_3)), (ra 5, .inl (kI, 24, .inl g120_4)), (ra 6, .inl (kI, 24, .inl (upd q_mute v120_stk1.toNatClampNeg v120_stk0))), (ra 7, .inl (kI, 24, .inl q_late)), (ra 13, .inl (kI, 700, .inl q_tape)), (ra 1, .inl (kS, 4, .inr (.inr (.inr (.inr q_kinds)))))] H := hP
    have hD : va_D A [(m0, .inr (11, oX11 ra y120_0)), (ra 2, .inl (kI, 8, .inl q_told)), (ra 3, .inl (kI, 24, .inl g120_2)), (ra 4, .inl (kI, 24, .inl g120_3)), (ra 5, .inl (kI, 24, .inl g120_4)), (ra 6, .inl (kI, 24, .inl (upd q_mute v120_stk1.toNatClampNeg v120_stk0))), (ra 7, .inl (kI, 24, .inl q_late)), (ra 13, .inl (kI, 700, .inl q_tape)), (ra 1, .inl (kS, 4, .inr (.inr (.inr (.inr q_kinds)))))] := hD
    generalize (upd q_mute v120_stk1.toNatClampNeg v120_stk0) = f21 at hP hD
    refine lv_aload_n hx hb dX11_readRouter_121 rfl (lv_at hl 0 rfl) ?_
    refine va_get (D := (dC, dI)) (ci := 11) (v := .ref (ra 7)) (C := RX11) (T := TX11) (N := 61) hx hb hts hin11 hown hK hP 0 rfl rfl 8 (by decide) hw_3 (fun _ h9 => h9) rfl dX11_readRouter_122 ?_
    refine lv_iload_n hx hb dX11_readRouter_125 rfl (lv_at hl 1 rfl) ?_
    refine lv_aload_n hx hb dX11_readRouter_126 rfl (lv_at hl 0 rfl) ?_
    refine va_ldcS hx hb hown hKL.2.2.2.2.2.2.2.2.2.2.2.2.2.2.2.2.2.2.2.2.2.2 dX11_readRouter_127 ?_
    have hPc := hP.sub (ws' := [(m0, .inr (11, oX11 ra y120_0)), (ra 13, .inl (kI, 700, .inl q_tape))]) [0, 7] rfl
    have hDc := hD.sub (ws' := [(m0, .inr (11, oX11 ra y120_0)), (ra 13, .inl (kI, 700, .inl q_tape))]) [0, 7] (by decide +kernel) rfl
    have hFc := va_free (wc := [(m0, .inr (11, oX11 ra y120_0)), (ra 13, .inl (kI, 700, .inl q_tape))]) hD hS hA [0, 7] rfl
    refine va_calli (va_runV (As := [.ref (adK 9)]) (rest := [.int v120_loc1, .ref (ra 7)]) ⟨hx, hb, hml, hown, hts⟩ (s11_is l dC dI kB kI kJ kZ kC kS H.size adK adV m0 ra y120_0 q_tape 9 (hI120_0) (hq_tape) ((by decide))) (cwV 1 hts gX11_readRouter_X11_is rfl rfl rfl (by decide +kernel) ⟨Nat.le_of_ble_eq_true rfl, Nat.le_of_ble_eq_true rfl⟩) ⟨fun a U g mk q => by obtain ⟨q0, q1, qP, qE, qD, qL⟩ := q; exact ⟨q0, q1, qP, kE_call qE, qD, kL_call qL⟩, va_recv hK hP (ci := 11) (q0 := 0) rfl rfl, fun U hU hW => ⟨rfl, by rw [hU], by rw [hU]; exact hPc, kE_warm hW hE, hDc.weaken (fun _ _ _ _ => trivial), kL_at hKL hS hFc hW hU⟩⟩ rfl rfl hl.1 rfl (lv_room (Nat.le_of_ble_eq_true rfl)) dX11_readRouter_129 ⟨Nat.le_of_ble_eq_true rfl, Nat.le_of_ble_eq_true rfl⟩) hS (fun q _ h => hFc q h) hFc (fun r22 u t H1 locs ht hvm w23 hB hz1 hk1 hS => ?_)
    obtain ⟨hP1, hD1⟩ := hB
    rw [ht] at hP1
    try dsimp only at w23
    obtain ⟨hP, hD⟩ := va_join (wr := [(ra 2, .inl (kI, 8, .inl q_told)), (ra 3, .inl (kI, 24, .inl g120_2)), (ra 4, .inl (kI, 24, .inl g120_3)), (ra 5, .inl (kI, 24, .inl g120_4)), (ra 6, .inl (kI, 24, .inl f21)), (ra 7, .inl (kI, 24, .inl q_late)), (ra 1, .inl (kS, 4, .inr (.inr (.inr (.inr q_kinds)))))]) (w1 := [(m0, .inr (11, oX11 ra y120_0)), (ra 13, .inl (kI, 700, .inl q_tape))]) hP hD [0, 7] [1, 2, 3, 4, 5, 6, 8] rfl rfl (by decide +kernel) (by decide +kernel) hk1 hFc hP1 hD1
    generalize H1 = H at hP hS ⊢
    have hP : va_P (dC, dI) vwCl [(ra 2, .inl (kI, 8, .inl q_told)), (ra 3, .inl (kI, 24, .inl g120_2)), (ra 4, .inl (kI, 24, .inl g120_3)), (ra 5, .inl (kI, 24, .inl g120_4)), (ra 6, .inl (kI, 24, .inl f21)), (ra 7, .inl (kI, 24, .inl q_late)), (ra 1, .inl (kS, 4, .inr (.inr (.inr (.inr q_kinds))))), (m0, .inr (11, oX11 ra y120_0)), (ra 13, .inl (kI, 700, .inl q_tape))] H := hP
    have hD : va_D A [(ra 2, .inl (kI, 8, .inl q_told)), (ra 3, .inl (kI, 24, .inl g120_2)), (ra 4, .inl (kI, 24, .inl g120_3)), (ra 5, .inl (kI, 24, .inl g120_4)), (ra 6, .inl (kI, 24, .inl f21)), (ra 7, .inl (kI, 24, .inl q_late)), (ra 1, .inl (kS, 4, .inr (.inr (.inr (.inr q_kinds))))), (m0, .inr (11, oX11 ra y120_0)), (ra 13, .inl (kI, 700, .inl q_tape))] := hD
    refine W.widen (k := 0) (n := 0) (Nat.le_of_ble_eq_true rfl) (Nat.le_of_ble_eq_true rfl) ?_
    refine lv_if_eq (tgt := 139) hx hb dX11_readRouter_132 (by decide) (fun c24 => ?_) (fun c24 => ?_)
    · have b25 : iv 0 0 r22 := iv_eqL c24 (iv_k (by decide) (by decide) : iv 0 0 0)
      refine lv_iconst (v := 0) hx hb dX11_readRouter_139 (by decide) ?_
      exact hJ140 y120_0 g120_2 g120_3 g120_4 f21 v120_loc1 v120_loc2 0 v120_loc1 _ _ _ (hI120_0) (hI120_3) (h120_3) (h120_4) ((iv_w (iv_k (by decide) (by decide) : iv 0 0 0) (by decide) (by decide))) (h120_3) (h120_7) (h120_8) ((show (x0 2).toInt ≤ (y120_0 2).toInt from by omega)) ((show y120_0 3 = x0 3 from hts_120)) ((show y120_0 1 = x0 1 from htp_120)) (hP.sub [7, 0, 1, 2, 3, 4, 5, 8, 6] rfl) (hD.sub [7, 0, 1, 2, 3, 4, 5, 8, 6] (by decide +kernel) rfl) hS (lv_sub hl [0, 1, 2] rfl)
    · have b26 : iv 1 1 r22 := iv_neLo c24 w23 (iv_k (by decide) (by decide) : iv 0 0 0) (by decide) (by decide)
      refine lv_iconst (v := 1) hx hb dX11_readRouter_135 (by decide) ?_
      refine lv_goto (tgt := 140) hx hb dX11_readRouter_136 (by decide) ?_
      exact hJ140 y120_0 g120_2 g120_3 g120_4 f21 v120_loc1 v120_loc2 1 v120_loc1 _ _ _ (hI120_0) (hI120_3) (h120_3) (h120_4) ((iv_w (iv_k (by decide) (by decide) : iv 1 1 1) (by decide) (by decide))) (h120_3) (h120_7) (h120_8) ((show (x0 2).toInt ≤ (y120_0 2).toInt from by omega)) ((show y120_0 3 = x0 3 from hts_120)) ((show y120_0 1 = x0 1 from htp_120)) (hP.sub [7, 0, 1, 2, 3, 4, 5, 8, 6] rfl) (hD.sub [7, 0, 1, 2, 3, 4, 5, 8, 6] (by decide +kernel) rfl) hS (lv_sub hl [0, 1, 2] rfl)
  have hJ68 : ∀ (y68_0 : Nat → Int32) (v68_loc1 : Int32) (v68_loc2 : Int32) (H : Heap) (locs : List Loc) (ls : Array Slot), fI lX11 hX11 y68_0 → iv 12 23 v68_loc1 → iv (-1) 3 v68_loc2 → iv 0 11 (q_told 4) → iv 0 0 (x0 8) → ((x0 2).toInt ≤ (y68_0 2).toInt) → (y68_0 3 = x0 3) → (y68_0 1 = x0 1) → va_P (dC, dI) vwCl [(m0, .inr (11, oX11 ra y68_0)), (ra 2, .inl (kI, 8, .inl q_told)), (ra 3, .inl (kI, 24, .inl q_kind)), (ra 4, .inl (kI, 24, .inl q_salt)), (ra 5, .inl (kI, 24, .inl q_pace)), (ra 6, .inl (kI, 24, .inl q_mute)), (ra 7, .inl (kI, 24, .inl q_late)), (ra 13, .inl (kI, 700, .inl q_tape)), (ra 1, .inl (kS, 4, .inr (.inr (.inr (.inr q_kinds)))))] H → va_D A [(m0, .inr (11, oX11 ra y68_0)), (ra 2, .inl (kI, 8, .inl q_told)), (ra 3, .inl (kI, 24, .inl q_kind)), (ra 4, .inl (kI, 24, .inl q_salt)), (ra 5, .inl (kI, 24, .inl q_pace)), (ra 6, .inl (kI, 24, .inl q_mute)), (ra 7, .inl (kI, 24, .inl q_late)), (ra 13, .inl (kI, 700, .inl q_tape)), (ra 1, .inl (kS, 4, .inr (.inr (.inr (.inr q_kinds)))))] → va_S A s.heap H locs → lv_has ls 3 [(0, .ref m0), (1, .int v68_loc1), (2, .int v68_loc2)] → W p l e (headSpec wsX11_readRouter rm_s11_readRouter).room s m args0 below meth c H locs (0) (0) (MQ below (va_Qv (fun (_ : Unit) => True) (fun _ t => ∃ (x0' : Nat → Int32) (q_told' : Nat → Int32) (q_kind' : Nat → Int32) (q_salt' : Nat → Int32) (q_pace' : Nat → Int32) (q_mute' : Nat → Int32) (q_late' : Nat → Int32), fI lX11 hX11 x0' ∧ fI lTold hTold q_told' ∧ fI (fun _ => 0) (fun _ => 15) q_salt' ∧ ((x0 2).toInt ≤ (x0' 2).toInt) ∧ (x0' 3 = x0 3) ∧ (∀ j : Nat, (j : Int) < (q_told' 1).toInt → (q_from j).toInt < (q_to j).toInt) ∧ (∀ j : Nat, (j : Int) < (q_told' 5).toInt → (q_from (20 + j)).toInt < (q_to (20 + j)).toInt) ∧ (x0' 1 = x0 1) ∧ va_P (dC, dI) vwCl [(m0, .inr (11, oX11 ra x0')), (ra 2, .inl (kI, 8, .inl q_told')), (ra 3, .inl (kI, 24, .inl q_kind')), (ra 4, .inl (kI, 24, .inl q_salt')), (ra 5, .inl (kI, 24, .inl q_pace')), (ra 6, .inl (kI, 24, .inl q_mute')), (ra 7, .inl (kI, 24, .inl q_late')), (ra 13, .inl (kI, 700, .inl q_tape)), (ra 1, .inl (kS, 4, .inr (.inr (.inr (.inr q_kinds)))))] t.heap ∧ va_D A [(m0, .inr (11, oX11 ra x0')), (ra 2, .inl (kI, 8, .inl q_told')), (ra 3, .inl (kI, 24, .inl q_kind')), (ra 4, .inl (kI, 24, .inl q_salt')), (ra 5, .inl (kI, 24, .inl q_pace')), (ra 6, .inl (kI, 24, .inl q_mute')), (ra 7, .inl (kI, 24, .inl q_late')), (ra 13, .inl (kI, 700, .inl q_tape)), (ra 1, .inl (kS, 4, .inr (.inr (.inr (.inr q_kinds)))))]) A) args0 s 0 0 A) (F0 m 68 ls []) := by
    intro y68_0 v68_loc1 v68_loc2 H locs ls hI68_0 h68_2 h68_3 h68_4 h68_5 hat_68 hts_68 htp_68 hP hD hS hl
    refine lv_aload_n hx hb dX11_readRouter_68 rfl (lv_at hl 0 rfl) ?_
    refine va_get (D := (dC, dI)) (ci := 11) (v := .ref (ra 3)) (C := RX11) (T := TX11) (N := 61) hx hb hts hin11 hown hK hP 0 rfl rfl 4 (by decide) hw_4 (fun _ h9 => h9) rfl dX11_readRouter_69 ?_
    refine lv_iload_n hx hb dX11_readRouter_72 rfl (lv_at hl 1 rfl) ?_
    refine lv_iload_n hx hb dX11_readRouter_73 rfl (lv_at hl 2 rfl) ?_
    refine va_iast hx hb hK hP hD hS 2 1 rfl rfl (iv_in h68_2 (by decide) (by decide)) dX11_readRouter_74 (fun H locs hP hD hS => ?_)
    have hP : va_P (dC, dI) vwCl [(m0, .inr (11, oX11 ra y68_0)), (ra 2, .inl (kI, 8, .inl q_told)), (ra 3, .inl (kI, 24, .inl (upd q_kind v68_loc1.toNatClampNeg v68_loc2))), (ra 4, .inl (kI, 24, .inl q_salt)), (ra 5, .inl (kI, 24, .inl q_pace)), (ra 6, .inl (kI, 24, .inl q_mute)), (ra 7, .inl (kI, 24, .inl q_late)), (ra 13, .inl (kI, 700, .inl q_tape)), (ra 1, .inl (kS, 4, .inr (.inr (.inr (.inr q_kinds)))))] H := hP
    have hD : va_D A [(m0, .inr (11, oX11 ra y68_0)), (ra 2, .inl (kI, 8, .inl q_told)), (ra 3, .inl (kI, 24, .inl (upd q_kind v68_loc1.toNatClampNeg v68_loc2))), (ra 4, .inl (kI, 24, .inl q_salt)), (ra 5, .inl (kI, 24, .inl q_pace)), (ra 6, .inl (kI, 24, .inl q_mute)), (ra 7, .inl (kI, 24, .inl q_late)), (ra 13, .inl (kI, 700, .inl q_tape)), (ra 1, .inl (kS, 4, .inr (.inr (.inr (.inr q_kinds)))))] := hD
    generalize (upd q_kind v68_loc1.toNatClampNeg v68_loc2) = f27 at hP hD
    refine lv_aload_n hx hb dX11_readRouter_75 rfl (lv_at hl 0 rfl) ?_
    refine va_get (D := (dC, dI)) (ci := 11) (v := .ref (ra 4)) (C := RX11) (T := TX11) (N := 61) hx hb hts hin11 hown hK hP 0 rfl rfl 5 (by decide) hw_5 (fun _ h9 => h9) rfl dX11_readRouter_76 ?_
    refine lv_iload_n hx hb dX11_readRouter_79 rfl (lv_at hl 1 rfl) ?_
    refine lv_aload_n hx hb dX11_readRouter_80 rfl (lv_at hl 0 rfl) ?_
    refine lv_iconst (v := 0) hx hb dX11_readRouter_81 (by decide) ?_
    refine lv_bipush (v := 15) hx hb dX11_readRouter_82 (by decide) ?_
    have hPc := hP.sub (ws' := [(m0, .inr (11, oX11 ra y68_0)), (ra 13, .inl (kI, 700, .inl q_tape))]) [0, 7] rfl
    have hDc := hD.sub (ws' := [(m0, .inr (11, oX11 ra y68_0)), (ra 13, .inl (kI, 700, .inl q_tape))]) [0, 7] (by decide +kernel) rfl
    have hFc := va_free (wc := [(m0, .inr (11, oX11 ra y68_0)), (ra 13, .inl (kI, 700, .inl q_tape))]) hD hS hA [0, 7] rfl
    refine va_calli (va_runV (As := [.int 0, .int 15]) (rest := [.int v68_loc1, .ref (ra 4)]) ⟨hx, hb, hml, hown, hts⟩ (s11_readNumber_0_15 l dC dI kB kI kJ kZ kC kS H.size m0 ra y68_0 q_tape (hI68_0) (hq_tape)) (cwV 2 hts gX11_readRouter_X11_readNumber rfl rfl rfl (by decide +kernel) ⟨Nat.le_of_ble_eq_true rfl, Nat.le_of_ble_eq_true rfl⟩) ⟨fun a U g mk q => by obtain ⟨q0, q1, qP, qE, qD⟩ := q; exact ⟨q0, q1, qP, kE_call qE, qD⟩, va_recv hK hP (ci := 11) (q0 := 0) rfl rfl, fun U hU hW => ⟨rfl, by rw [hU], by rw [hU]; exact hPc, kE_warm hW hE, hDc.weaken (fun _ _ _ _ => trivial)⟩⟩ rfl rfl hl.1 rfl (lv_room (Nat.le_of_ble_eq_true rfl)) dX11_readRouter_84 ⟨Nat.le_of_ble_eq_true rfl, Nat.le_of_ble_eq_true rfl⟩) hS (fun q _ h => hFc q h) hFc (fun r28 u t H1 locs ht hvm w29 hB hz1 hk1 hS => ?_)
    obtain ⟨y30, hq31, hq32, hq33, hq34, hP1, hD1⟩ := hB
    rw [ht] at hP1
    try dsimp only at w29
    obtain ⟨hP, hD⟩ := va_join (wr := [(ra 2, .inl (kI, 8, .inl q_told)), (ra 3, .inl (kI, 24, .inl f27)), (ra 4, .inl (kI, 24, .inl q_salt)), (ra 5, .inl (kI, 24, .inl q_pace)), (ra 6, .inl (kI, 24, .inl q_mute)), (ra 7, .inl (kI, 24, .inl q_late)), (ra 1, .inl (kS, 4, .inr (.inr (.inr (.inr q_kinds)))))]) (w1 := [(m0, .inr (11, oX11 ra y30)), (ra 13, .inl (kI, 700, .inl q_tape))]) hP hD [0, 7] [1, 2, 3, 4, 5, 6, 8] rfl rfl (by decide +kernel) (by decide +kernel) hk1 hFc hP1 hD1
    generalize H1 = H at hP hS ⊢
    have hP : va_P (dC, dI) vwCl [(ra 2, .inl (kI, 8, .inl q_told)), (ra 3, .inl (kI, 24, .inl f27)), (ra 4, .inl (kI, 24, .inl q_salt)), (ra 5, .inl (kI, 24, .inl q_pace)), (ra 6, .inl (kI, 24, .inl q_mute)), (ra 7, .inl (kI, 24, .inl q_late)), (ra 1, .inl (kS, 4, .inr (.inr (.inr (.inr q_kinds))))), (m0, .inr (11, oX11 ra y30)), (ra 13, .inl (kI, 700, .inl q_tape))] H := hP
    have hD : va_D A [(ra 2, .inl (kI, 8, .inl q_told)), (ra 3, .inl (kI, 24, .inl f27)), (ra 4, .inl (kI, 24, .inl q_salt)), (ra 5, .inl (kI, 24, .inl q_pace)), (ra 6, .inl (kI, 24, .inl q_mute)), (ra 7, .inl (kI, 24, .inl q_late)), (ra 1, .inl (kS, 4, .inr (.inr (.inr (.inr q_kinds))))), (m0, .inr (11, oX11 ra y30)), (ra 13, .inl (kI, 700, .inl q_tape))] := hD
    refine W.widen (k := 0) (n := 0) (Nat.le_of_ble_eq_true rfl) (Nat.le_of_ble_eq_true rfl) ?_
    refine va_iast hx hb hK hP hD hS 2 1 rfl rfl (iv_in h68_2 (by decide) (by decide)) dX11_readRouter_87 (fun H locs hP hD hS => ?_)
    have hP : va_P (dC, dI) vwCl [(ra 2, .inl (kI, 8, .inl q_told)), (ra 3, .inl (kI, 24, .inl f27)), (ra 4, .inl (kI, 24, .inl (upd q_salt v68_loc1.toNatClampNeg r28))), (ra 5, .inl (kI, 24, .inl q_pace)), (ra 6, .inl (kI, 24, .inl q_mute)), (ra 7, .inl (kI, 24, .inl q_late)), (ra 1, .inl (kS, 4, .inr (.inr (.inr (.inr q_kinds))))), (m0, .inr (11, oX11 ra y30)), (ra 13, .inl (kI, 700, .inl q_tape))] H := hP
    have hD : va_D A [(ra 2, .inl (kI, 8, .inl q_told)), (ra 3, .inl (kI, 24, .inl f27)), (ra 4, .inl (kI, 24, .inl (upd q_salt v68_loc1.toNatClampNeg r28))), (ra 5, .inl (kI, 24, .inl q_pace)), (ra 6, .inl (kI, 24, .inl q_mute)), (ra 7, .inl (kI, 24, .inl q_late)), (ra 1, .inl (kS, 4, .inr (.inr (.inr (.inr q_kinds))))), (m0, .inr (11, oX11 ra y30)), (ra 13, .inl (kI, 700, .inl q_tape))] := hD
    have hf36 : fI (fun _ => 0) (fun _ => 15) (upd q_salt v68_loc1.toNatClampNeg r28) := fI_u hq_salt (k := v68_loc1.toNatClampNeg) (w29)
    generalize (upd q_salt v68_loc1.toNatClampNeg r28) = f35 at hP hD hf36
    refine lv_aload_n hx hb dX11_readRouter_88 rfl (lv_at hl 0 rfl) ?_
    refine va_get (D := (dC, dI)) (ci := 11) (v := .ref (ra 5)) (C := RX11) (T := TX11) (N := 61) hx hb hts hin11 hown hK hP 7 rfl rfl 6 (by decide) hw_6 (fun _ h9 => h9) rfl dX11_readRouter_89 ?_
    refine lv_iload_n hx hb dX11_readRouter_92 rfl (lv_at hl 1 rfl) ?_
    refine lv_aload_n hx hb dX11_readRouter_93 rfl (lv_at hl 0 rfl) ?_
    refine lv_iconst (v := 1) hx hb dX11_readRouter_94 (by decide) ?_
    refine lv_bipush (v := 60) hx hb dX11_readRouter_95 (by decide) ?_
    have hPc := hP.sub (ws' := [(m0, .inr (11, oX11 ra y30)), (ra 13, .inl (kI, 700, .inl q_tape))]) [7, 8] rfl
    have hDc := hD.sub (ws' := [(m0, .inr (11, oX11 ra y30)), (ra 13, .inl (kI, 700, .inl q_tape))]) [7, 8] (by decide +kernel) rfl
    have hFc := va_free (wc := [(m0, .inr (11, oX11 ra y30)), (ra 13, .inl (kI, 700, .inl q_tape))]) hD hS hA [7, 8] rfl
    refine va_calli (va_runV (As := [.int 1, .int 60]) (rest := [.int v68_loc1, .ref (ra 5)]) ⟨hx, hb, hml, hown, hts⟩ (s11_readNumber_1_60 l dC dI kB kI kJ kZ kC kS H.size m0 ra y30 q_tape (hq31) (hq_tape)) (cwV 2 hts gX11_readRouter_X11_readNumber rfl rfl rfl (by decide +kernel) ⟨Nat.le_of_ble_eq_true rfl, Nat.le_of_ble_eq_true rfl⟩) ⟨fun a U g mk q => by obtain ⟨q0, q1, qP, qE, qD⟩ := q; exact ⟨q0, q1, qP, kE_call qE, qD⟩, va_recv hK hP (ci := 11) (q0 := 7) rfl rfl, fun U hU hW => ⟨rfl, by rw [hU], by rw [hU]; exact hPc, kE_warm hW hE, hDc.weaken (fun _ _ _ _ => trivial)⟩⟩ rfl rfl hl.1 rfl (lv_room (Nat.le_of_ble_eq_true rfl)) dX11_readRouter_97 ⟨Nat.le_of_ble_eq_true rfl, Nat.le_of_ble_eq_true rfl⟩) hS (fun q _ h => hFc q h) hFc (fun r37 u t H1 locs ht hvm w38 hB hz1 hk1 hS => ?_)
    obtain ⟨y39, hq40, hq41, hq42, hq43, hP1, hD1⟩ := hB
    rw [ht] at hP1
    try dsimp only at w38
    obtain ⟨hP, hD⟩ := va_join (wr := [(ra 2, .inl (kI, 8, .inl q_told)), (ra 3, .inl (kI, 24, .inl f27)), (ra 4, .inl (kI, 24, .inl f35)), (ra 5, .inl (kI, 24, .inl q_pace)), (ra 6, .inl (kI, 24, .inl q_mute)), (ra 7, .inl (kI, 24, .inl q_late)), (ra 1, .inl (kS, 4, .inr (.inr (.inr (.inr q_kinds)))))]) (w1 := [(m0, .inr (11, oX11 ra y39)), (ra 13, .inl (kI, 700, .inl q_tape))]) hP hD [7, 8] [0, 1, 2, 3, 4, 5, 6] rfl rfl (by decide +kernel) (by decide +kernel) hk1 hFc hP1 hD1
    generalize H1 = H at hP hS ⊢
    have hP : va_P (dC, dI) vwCl [(ra 2, .inl (kI, 8, .inl q_told)), (ra 3, .inl (kI, 24, .inl f27)), (ra 4, .inl (kI, 24, .inl f35)), (ra 5, .inl (kI, 24, .inl q_pace)), (ra 6, .inl (kI, 24, .inl q_mute)), (ra 7, .inl (kI, 24, .inl q_late)), (ra 1, .inl (kS, 4, .inr (.inr (.inr (.inr q_kinds))))), (m0, .inr (11, oX11 ra y39)), (ra 13, .inl (kI, 700, .inl q_tape))] H := hP
    have hD : va_D A [(ra 2, .inl (kI, 8, .inl q_told)), (ra 3, .inl (kI, 24, .inl f27)), (ra 4, .inl (kI, 24, .inl f35)), (ra 5, .inl (kI, 24, .inl q_pace)), (ra 6, .inl (kI, 24, .inl q_mute)), (ra 7, .inl (kI, 24, .inl q_late)), (ra 1, .inl (kS, 4, .inr (.inr (.inr (.inr q_kinds))))), (m0, .inr (11, oX11 ra y39)), (ra 13, .inl (kI, 700, .inl q_tape))] := hD
    refine W.widen (k := 0) (n := 0) (Nat.le_of_ble_eq_true rfl) (Nat.le_of_ble_eq_true rfl) ?_
    refine va_iast hx hb hK hP hD hS 3 1 rfl rfl (iv_in h68_2 (by decide) (by decide)) dX11_readRouter_100 (fun H locs hP hD hS => ?_)
    have hP : va_P (dC, dI) vwCl [(ra 2, .inl (kI, 8, .inl q_told)), (ra 3, .inl (kI, 24, .inl f27)), (ra 4, .inl (kI, 24, .inl f35)), (ra 5, .inl (kI, 24, .inl (upd q_pace v68_loc1.toNatClampNeg r37))), (ra 6, .inl (kI, 24, .inl q_mute)), (ra 7, .inl (kI, 24, .inl q_late)), (ra 1, .inl (kS, 4, .inr (.inr (.inr (.inr q_kinds))))), (m0, .inr (11, oX11 ra y39)), (ra 13, .inl (kI, 700, .inl q_tape))] H := hP
    have hD : va_D A [(ra 2, .inl (kI, 8, .inl q_told)), (ra 3, .inl (kI, 24, .inl f27)), (ra 4, .inl (kI, 24, .inl f35)), (ra 5, .inl (kI, 24, .inl (upd q_pace v68_loc1.toNatClampNeg r37))), (ra 6, .inl (kI, 24, .inl q_mute)), (ra 7, .inl (kI, 24, .inl q_late)), (ra 1, .inl (kS, 4, .inr (.inr (.inr (.inr q_kinds))))), (m0, .inr (11, oX11 ra y39)), (ra 13, .inl (kI, 700, .inl q_tape))] := hD
    generalize (upd q_pace v68_loc1.toNatClampNeg r37) = f44 at hP hD
    refine lv_aload_n hx hb dX11_readRouter_101 rfl (lv_at hl 0 rfl) ?_
    refine va_get (D := (dC, dI)) (ci := 11) (v := .ref (ra 6)) (C := RX11) (T := TX11) (N := 61) hx hb hts hin11 hown hK hP 7 rfl rfl 7 (by decide) hw_2 (fun _ h9 => h9) rfl dX11_readRouter_102 ?_
    refine lv_iload_n hx hb dX11_readRouter_105 rfl (lv_at hl 1 rfl) ?_
    refine lv_aload_n hx hb dX11_readRouter_106 rfl (lv_at hl 0 rfl) ?_
    refine va_ldcS hx hb hown hKL.2.2.2.2.2.2.2.2.2.2.2.2.2.2.2.2.2.2.2.2.2.1 dX11_readRouter_107 ?_
    have hPc := hP.sub (ws' := [(m0, .inr (11, oX11 ra y39)), (ra 13, .inl (kI, 700, .inl q_tape))]) [7, 8] rfl
    have hDc := hD.sub (ws' := [(m0, .inr (11, oX11 ra y39)), (ra 13, .inl (kI, 700, .inl q_tape))]) [7, 8] (by decide +kernel) rfl
    have hFc := va_free (wc := [(m0, .inr (11, oX11 ra y39)), (ra 13, .inl (kI, 700, .inl q_tape))]) hD hS hA [7, 8] rfl
    refine va_calli (va_runV (As := [.ref (adK 8)]) (rest := [.int v68_loc1, .ref (ra 6)]) ⟨hx, hb, hml, hown, hts⟩ (s11_is l dC dI kB kI kJ kZ kC kS H.size adK adV m0 ra y39 q_tape 8 (hq40) (hq_tape) ((by decide))) (cwV 1 hts gX11_readRouter_X11_is rfl rfl rfl (by decide +kernel) ⟨Nat.le_of_ble_eq_true rfl, Nat.le_of_ble_eq_true rfl⟩) ⟨fun a U g mk q => by obtain ⟨q0, q1, qP, qE, qD, qL⟩ := q; exact ⟨q0, q1, qP, kE_call qE, qD, kL_call qL⟩, va_recv hK hP (ci := 11) (q0 := 7) rfl rfl, fun U hU hW => ⟨rfl, by rw [hU], by rw [hU]; exact hPc, kE_warm hW hE, hDc.weaken (fun _ _ _ _ => trivial), kL_at hKL hS hFc hW hU⟩⟩ rfl rfl hl.1 rfl (lv_room (Nat.le_of_ble_eq_true rfl)) dX11_readRouter_109 ⟨Nat.le_of_ble_eq_true rfl, Nat.le_of_ble_eq_true rfl⟩) hS (fun q _ h => hFc q h) hFc (fun r45 u t H1 locs ht hvm w46 hB hz1 hk1 hS => ?_)
    obtain ⟨hP1, hD1⟩ := hB
    rw [ht] at hP1
    try dsimp only at w46
    obtain ⟨hP, hD⟩ := va_join (wr := [(ra 2, .inl (kI, 8, .inl q_told)), (ra 3, .inl (kI, 24, .inl f27)), (ra 4, .inl (kI, 24, .inl f35)), (ra 5, .inl (kI, 24, .inl f44)), (ra 6, .inl (kI, 24, .inl q_mute)), (ra 7, .inl (kI, 24, .inl q_late)), (ra 1, .inl (kS, 4, .inr (.inr (.inr (.inr q_kinds)))))]) (w1 := [(m0, .inr (11, oX11 ra y39)), (ra 13, .inl (kI, 700, .inl q_tape))]) hP hD [7, 8] [0, 1, 2, 3, 4, 5, 6] rfl rfl (by decide +kernel) (by decide +kernel) hk1 hFc hP1 hD1
    generalize H1 = H at hP hS ⊢
    have hP : va_P (dC, dI) vwCl [(ra 2, .inl (kI, 8, .inl q_told)), (ra 3, .inl (kI, 24, .inl f27)), (ra 4, .inl (kI, 24, .inl f35)), (ra 5, .inl (kI, 24, .inl f44)), (ra 6, .inl (kI, 24, .inl q_mute)), (ra 7, .inl (kI, 24, .inl q_late)), (ra 1, .inl (kS, 4, .inr (.inr (.inr (.inr q_kinds))))), (m0, .inr (11, oX11 ra y39)), (ra 13, .inl (kI, 700, .inl q_tape))] H := hP
    have hD : va_D A [(ra 2, .inl (kI, 8, .inl q_told)), (ra 3, .inl (kI, 24, .inl f27)), (ra 4, .inl (kI, 24, .inl f35)), (ra 5, .inl (kI, 24, .inl f44)), (ra 6, .inl (kI, 24, .inl q_mute)), (ra 7, .inl (kI, 24, .inl q_late)), (ra 1, .inl (kS, 4, .inr (.inr (.inr (.inr q_kinds))))), (m0, .inr (11, oX11 ra y39)), (ra 13, .inl (kI, 700, .inl q_tape))] := hD
    refine W.widen (k := 0) (n := 0) (Nat.le_of_ble_eq_true rfl) (Nat.le_of_ble_eq_true rfl) ?_
    refine lv_if_eq (tgt := 119) hx hb dX11_readRouter_112 (by decide) (fun c47 => ?_) (fun c47 => ?_)
    · have b48 : iv 0 0 r45 := iv_eqL c47 (iv_k (by decide) (by decide) : iv 0 0 0)
      refine lv_iconst (v := 0) hx hb dX11_readRouter_119 (by decide) ?_
      exact hJ120 y39 f27 f35 f44 v68_loc1 v68_loc2 0 v68_loc1 _ _ _ (hq40) (hf36) (h68_2) (h68_3) ((iv_w (iv_k (by decide) (by decide) : iv 0 0 0) (by decide) (by decide))) (h68_2) (h68_4) (h68_5) ((show (x0 2).toInt ≤ (y39 2).toInt from by omega)) ((show y39 3 = x0 3 from hq42.trans (hq33.trans (hts_68)))) ((show y39 1 = x0 1 from hq43.trans (hq34.trans (htp_68)))) (hP.sub [7, 0, 1, 2, 3, 4, 5, 8, 6] rfl) (hD.sub [7, 0, 1, 2, 3, 4, 5, 8, 6] (by decide +kernel) rfl) hS (lv_sub hl [0, 1, 2] rfl)
    · have b49 : iv 1 1 r45 := iv_neLo c47 w46 (iv_k (by decide) (by decide) : iv 0 0 0) (by decide) (by decide)
      refine lv_iconst (v := 1) hx hb dX11_readRouter_115 (by decide) ?_
      refine lv_goto (tgt := 120) hx hb dX11_readRouter_116 (by decide) ?_
      exact hJ120 y39 f27 f35 f44 v68_loc1 v68_loc2 1 v68_loc1 _ _ _ (hq40) (hf36) (h68_2) (h68_3) ((iv_w (iv_k (by decide) (by decide) : iv 1 1 1) (by decide) (by decide))) (h68_2) (h68_4) (h68_5) ((show (x0 2).toInt ≤ (y39 2).toInt from by omega)) ((show y39 3 = x0 3 from hq42.trans (hq33.trans (hts_68)))) ((show y39 1 = x0 1 from hq43.trans (hq34.trans (htp_68)))) (hP.sub [7, 0, 1, 2, 3, 4, 5, 8, 6] rfl) (hD.sub [7, 0, 1, 2, 3, 4, 5, 8, 6] (by decide +kernel) rfl) hS (lv_sub hl [0, 1, 2] rfl)
  have hJ57 : ∀ (y57_0 : Nat → Int32) (v57_loc1 : Int32) (v57_loc2 : Int32) (H : Heap) (locs : List Loc) (ls : Array Slot), fI lX11 hX11 y57_0 → iv 12 23 v57_loc1 → iv (-1) 3 v57_loc2 → iv 0 11 (q_told 4) → iv 0 0 (x0 8) → ((x0 2).toInt ≤ (y57_0 2).toInt) → (y57_0 3 = x0 3) → (y57_0 1 = x0 1) → va_P (dC, dI) vwCl [(m0, .inr (11, oX11 ra y57_0)), (ra 2, .inl (kI, 8, .inl q_told)), (ra 3, .inl (kI, 24, .inl q_kind)), (ra 4, .inl (kI, 24, .inl q_salt)), (ra 5, .inl (kI, 24, .inl q_pace)), (ra 6, .inl (kI, 24, .inl q_mute)), (ra 7, .inl (kI, 24, .inl q_late)), (ra 13, .inl (kI, 700, .inl q_tape)), (ra 1, .inl (kS, 4, .inr (.inr (.inr (.inr q_kinds)))))] H → va_D A [(m0, .inr (11, oX11 ra y57_0)), (ra 2, .inl (kI, 8, .inl q_told)), (ra 3, .inl (kI, 24, .inl q_kind)), (ra 4, .inl (kI, 24, .inl q_salt)), (ra 5, .inl (kI, 24, .inl q_pace)), (ra 6, .inl (kI, 24, .inl q_mute)), (ra 7, .inl (kI, 24, .inl q_late)), (ra 13, .inl (kI, 700, .inl q_tape)), (ra 1, .inl (kS, 4, .inr (.inr (.inr (.inr q_kinds)))))] → va_S A s.heap H locs → lv_has ls 3 [(0, .ref m0), (1, .int v57_loc1), (2, .int v57_loc2)] → W p l e (headSpec wsX11_readRouter rm_s11_readRouter).room s m args0 below meth c H locs (0) (0) (MQ below (va_Qv (fun (_ : Unit) => True) (fun _ t => ∃ (x0' : Nat → Int32) (q_told' : Nat → Int32) (q_kind' : Nat → Int32) (q_salt' : Nat → Int32) (q_pace' : Nat → Int32) (q_mute' : Nat → Int32) (q_late' : Nat → Int32), fI lX11 hX11 x0' ∧ fI lTold hTold q_told' ∧ fI (fun _ => 0) (fun _ => 15) q_salt' ∧ ((x0 2).toInt ≤ (x0' 2).toInt) ∧ (x0' 3 = x0 3) ∧ (∀ j : Nat, (j : Int) < (q_told' 1).toInt → (q_from j).toInt < (q_to j).toInt) ∧ (∀ j : Nat, (j : Int) < (q_told' 5).toInt → (q_from (20 + j)).toInt < (q_to (20 + j)).toInt) ∧ (x0' 1 = x0 1) ∧ va_P (dC, dI) vwCl [(m0, .inr (11, oX11 ra x0')), (ra 2, .inl (kI, 8, .inl q_told')), (ra 3, .inl (kI, 24, .inl q_kind')), (ra 4, .inl (kI, 24, .inl q_salt')), (ra 5, .inl (kI, 24, .inl q_pace')), (ra 6, .inl (kI, 24, .inl q_mute')), (ra 7, .inl (kI, 24, .inl q_late')), (ra 13, .inl (kI, 700, .inl q_tape)), (ra 1, .inl (kS, 4, .inr (.inr (.inr (.inr q_kinds)))))] t.heap ∧ va_D A [(m0, .inr (11, oX11 ra x0')), (ra 2, .inl (kI, 8, .inl q_told')), (ra 3, .inl (kI, 24, .inl q_kind')), (ra 4, .inl (kI, 24, .inl q_salt')), (ra 5, .inl (kI, 24, .inl q_pace')), (ra 6, .inl (kI, 24, .inl q_mute')), (ra 7, .inl (kI, 24, .inl q_late')), (ra 13, .inl (kI, 700, .inl q_tape)), (ra 1, .inl (kS, 4, .inr (.inr (.inr (.inr q_kinds)))))]) A) args0 s 0 0 A) (F0 m 57 ls []) := by
    intro y57_0 v57_loc1 v57_loc2 H locs ls hI57_0 h57_2 h57_3 h57_4 h57_5 hat_57 hts_57 htp_57 hP hD hS hl
    refine lv_aload_n hx hb dX11_readRouter_57 rfl (lv_at hl 0 rfl) ?_
    refine va_get (D := (dC, dI)) (ci := 11) (v := .int (y57_0 8)) (C := RX11) (T := TX11) (N := 61) hx hb hts hin11 hown hK hP 0 rfl rfl 22 (by decide) hw_1 (fun _ h9 => h9) rfl dX11_readRouter_58 ?_
    refine lv_if_ne (tgt := 68) hx hb dX11_readRouter_61 (by decide) (fun c50 => ?_) (fun c50 => ?_)
    · have b51 : iv 1 5 (y57_0 8) := iv_neLo c50 (hI57_0 8 : iv 0 5 (y57_0 8)) (iv_k (by decide) (by decide) : iv 0 0 0) (by decide) (by decide)
      exact hJ68 y57_0 v57_loc1 v57_loc2 _ _ _ (hI57_0) (h57_2) (h57_3) (h57_4) (h57_5) ((show (x0 2).toInt ≤ (y57_0 2).toInt from by omega)) ((show y57_0 3 = x0 3 from hts_57)) ((show y57_0 1 = x0 1 from htp_57)) (hP.sub [0, 1, 2, 3, 4, 5, 6, 7, 8] rfl) (hD.sub [0, 1, 2, 3, 4, 5, 6, 7, 8] (by decide +kernel) rfl) hS (lv_sub hl [0, 1, 2] rfl)
    · have b52 : iv 0 0 (y57_0 8) := iv_eqL c50 (iv_k (by decide) (by decide) : iv 0 0 0)
      refine lv_aload_n hx hb dX11_readRouter_64 rfl (lv_at hl 0 rfl) ?_
      have hPc := hP.sub (ws' := [(m0, .inr (11, oX11 ra y57_0)), (ra 13, .inl (kI, 700, .inl q_tape))]) [0, 7] rfl
      have hDc := hD.sub (ws' := [(m0, .inr (11, oX11 ra y57_0)), (ra 13, .inl (kI, 700, .inl q_tape))]) [0, 7] (by decide +kernel) rfl
      have hFc := va_free (wc := [(m0, .inr (11, oX11 ra y57_0)), (ra 13, .inl (kI, 700, .inl q_tape))]) hD hS hA [0, 7] rfl
      refine va_callv (va_runV (As := []) (rest := []) ⟨hx, hb, hml, hown, hts⟩ (s11_stepOn l dC dI kB kI kJ kZ kC kS H.size m0 ra y57_0 q_tape (hI57_0) (hq_tape)) (cwV 0 hts gX11_readRouter_X11_stepOn rfl rfl rfl (by decide +kernel) ⟨Nat.le_of_ble_eq_true rfl, Nat.le_of_ble_eq_true rfl⟩) ⟨fun a U g mk q => by obtain ⟨q0, q1, qP, qE, qD⟩ := q; exact ⟨q0, q1, qP, kE_call qE, qD⟩, va_recv hK hP (ci := 11) (q0 := 0) rfl rfl, fun U hU hW => ⟨rfl, by rw [hU], by rw [hU]; exact hPc, kE_warm hW hE, hDc.weaken (fun _ _ _ _ => trivial)⟩⟩ rfl rfl hl.1 rfl (lv_room (Nat.le_of_ble_eq_true rfl)) dX11_readRouter_65 ⟨Nat.le_of_ble_eq_true rfl, Nat.le_of_ble_eq_true rfl⟩) hS (fun q _ h => hFc q h) hFc (fun u t H1 locs ht hvm w54 hB hz1 hk1 hS => ?_)
      obtain ⟨y55, hq56, hq57, hq58, hq59, hq60, hP1, hD1⟩ := hB
      rw [ht] at hP1
      try dsimp only at w54
      obtain ⟨hP, hD⟩ := va_join (wr := [(ra 2, .inl (kI, 8, .inl q_told)), (ra 3, .inl (kI, 24, .inl q_kind)), (ra 4, .inl (kI, 24, .inl q_salt)), (ra 5, .inl (kI, 24, .inl q_pace)), (ra 6, .inl (kI, 24, .inl q_mute)), (ra 7, .inl (kI, 24, .inl q_late)), (ra 1, .inl (kS, 4, .inr (.inr (.inr (.inr q_kinds)))))]) (w1 := [(m0, .inr (11, oX11 ra y55)), (ra 13, .inl (kI, 700, .inl q_tape))]) hP hD [0, 7] [1, 2, 3, 4, 5, 6, 8] rfl rfl (by decide +kernel) (by decide +kernel) hk1 hFc hP1 hD1
      generalize H1 = H at hP hS ⊢
      have hP : va_P (dC, dI) vwCl [(ra 2, .inl (kI, 8, .inl q_told)), (ra 3, .inl (kI, 24, .inl q_kind)), (ra 4, .inl (kI, 24, .inl q_salt)), (ra 5, .inl (kI, 24, .inl q_pace)), (ra 6, .inl (kI, 24, .inl q_mute)), (ra 7, .inl (kI, 24, .inl q_late)), (ra 1, .inl (kS, 4, .inr (.inr (.inr (.inr q_kinds))))), (m0, .inr (11, oX11 ra y55)), (ra 13, .inl (kI, 700, .inl q_tape))] H := hP
      have hD : va_D A [(ra 2, .inl (kI, 8, .inl q_told)), (ra 3, .inl (kI, 24, .inl q_kind)), (ra 4, .inl (kI, 24, .inl q_salt)), (ra 5, .inl (kI, 24, .inl q_pace)), (ra 6, .inl (kI, 24, .inl q_mute)), (ra 7, .inl (kI, 24, .inl q_late)), (ra 1, .inl (kS, 4, .inr (.inr (.inr (.inr q_kinds))))), (m0, .inr (11, oX11 ra y55)), (ra 13, .inl (kI, 700, .inl q_tape))] := hD
      refine W.widen (k := 0) (n := 0) (Nat.le_of_ble_eq_true rfl) (Nat.le_of_ble_eq_true rfl) ?_
      exact hJ68 y55 v57_loc1 v57_loc2 _ _ _ (hq56) (h57_2) (h57_3) (h57_4) (h57_5) ((show (x0 2).toInt ≤ (y55 2).toInt from by omega)) ((show y55 3 = x0 3 from hq58.trans (hts_57))) ((show y55 1 = x0 1 from hq60.trans (htp_57))) (hP.sub [7, 0, 1, 2, 3, 4, 5, 8, 6] rfl) (hD.sub [7, 0, 1, 2, 3, 4, 5, 8, 6] (by decide +kernel) rfl) hS (lv_sub hl [0, 1, 2] rfl)
  refine lv_aload_n hx hb dX11_readRouter_0 rfl (lv_at hl 0 rfl) ?_
  refine va_get (D := (dC, dI)) (ci := 11) (v := .ref (ra 2)) (C := RX11) (T := TX11) (N := 61) hx hb hts hin11 hown hK hP 0 rfl rfl 3 (by decide) hw_0 (fun _ h9 => h9) rfl dX11_readRouter_1 ?_
  refine lv_iconst (v := 4) hx hb dX11_readRouter_4 (by decide) ?_
  refine va_iald hx hb hK hP 1 1 rfl rfl (vp_in_nI (n := 4) (by decide) (by decide)) dX11_readRouter_5 ?_
  refine W.eq (g2 := F0 m 6 ls [.int (q_told 4)]) rfl ?_
  refine lv_bipush (v := 12) hx hb dX11_readRouter_6 (by decide) ?_
  refine lv_icmp_ne (tgt := 16) hx hb dX11_readRouter_8 (by decide) (fun c61 => ?_) (fun c61 => ?_)
  · have b62 : iv 0 11 (q_told 4) := iv_neHi c61 (hq_told 4 : iv 0 12 (q_told 4)) (iv_k (by decide) (by decide) : iv 12 12 12) (by decide) (by decide)
    refine lv_aload_n hx hb dX11_readRouter_16 rfl (lv_at hl 0 rfl) ?_
    refine va_get (D := (dC, dI)) (ci := 11) (v := .int (x0 8)) (C := RX11) (T := TX11) (N := 61) hx hb hts hin11 hown hK hP 0 rfl rfl 22 (by decide) hw_1 (fun _ h9 => h9) rfl dX11_readRouter_17 ?_
    refine lv_if_eq (tgt := 24) hx hb dX11_readRouter_20 (by decide) (fun c63 => ?_) (fun c63 => ?_)
    · have b64 : iv 0 0 (x0 8) := iv_eqL c63 (iv_k (by decide) (by decide) : iv 0 0 0)
      refine lv_aload_n hx hb dX11_readRouter_24 rfl (lv_at hl 0 rfl) ?_
      have hPc := hP.sub (ws' := [(m0, .inr (11, oX11 ra x0)), (ra 13, .inl (kI, 700, .inl q_tape))]) [0, 7] rfl
      have hDc := hD.sub (ws' := [(m0, .inr (11, oX11 ra x0)), (ra 13, .inl (kI, 700, .inl q_tape))]) [0, 7] (by decide +kernel) rfl
      have hFc := va_free (wc := [(m0, .inr (11, oX11 ra x0)), (ra 13, .inl (kI, 700, .inl q_tape))]) hD hS hA [0, 7] rfl
      refine va_callv (va_runV (As := []) (rest := []) ⟨hx, hb, hml, hown, hts⟩ (s11_stepOn l dC dI kB kI kJ kZ kC kS s.heap.size m0 ra x0 q_tape (hX) (hq_tape)) (cwV 0 hts gX11_readRouter_X11_stepOn rfl rfl rfl (by decide +kernel) ⟨Nat.le_of_ble_eq_true rfl, Nat.le_of_ble_eq_true rfl⟩) ⟨fun a U g mk q => by obtain ⟨q0, q1, qP, qE, qD⟩ := q; exact ⟨q0, q1, qP, kE_call qE, qD⟩, va_recv hK hP (ci := 11) (q0 := 0) rfl rfl, fun U hU hW => ⟨rfl, by rw [hU], by rw [hU]; exact hPc, kE_warm hW hE, hDc.weaken (fun _ _ _ _ => trivial)⟩⟩ rfl rfl hl.1 rfl (lv_room (Nat.le_of_ble_eq_true rfl)) dX11_readRouter_25 ⟨Nat.le_of_ble_eq_true rfl, Nat.le_of_ble_eq_true rfl⟩) hS (fun q _ h => hFc q h) hFc (fun u t H1 locs ht hvm w66 hB hz1 hk1 hS => ?_)
      obtain ⟨y67, hq68, hq69, hq70, hq71, hq72, hP1, hD1⟩ := hB
      rw [ht] at hP1
      try dsimp only at w66
      obtain ⟨hP, hD⟩ := va_join (wr := [(ra 2, .inl (kI, 8, .inl q_told)), (ra 3, .inl (kI, 24, .inl q_kind)), (ra 4, .inl (kI, 24, .inl q_salt)), (ra 5, .inl (kI, 24, .inl q_pace)), (ra 6, .inl (kI, 24, .inl q_mute)), (ra 7, .inl (kI, 24, .inl q_late)), (ra 1, .inl (kS, 4, .inr (.inr (.inr (.inr q_kinds)))))]) (w1 := [(m0, .inr (11, oX11 ra y67)), (ra 13, .inl (kI, 700, .inl q_tape))]) hP hD [0, 7] [1, 2, 3, 4, 5, 6, 8] rfl rfl (by decide +kernel) (by decide +kernel) hk1 hFc hP1 hD1
      generalize H1 = H at hP hS ⊢
      have hP : va_P (dC, dI) vwCl [(ra 2, .inl (kI, 8, .inl q_told)), (ra 3, .inl (kI, 24, .inl q_kind)), (ra 4, .inl (kI, 24, .inl q_salt)), (ra 5, .inl (kI, 24, .inl q_pace)), (ra 6, .inl (kI, 24, .inl q_mute)), (ra 7, .inl (kI, 24, .inl q_late)), (ra 1, .inl (kS, 4, .inr (.inr (.inr (.inr q_kinds))))), (m0, .inr (11, oX11 ra y67)), (ra 13, .inl (kI, 700, .inl q_tape))] H := hP
      have hD : va_D A [(ra 2, .inl (kI, 8, .inl q_told)), (ra 3, .inl (kI, 24, .inl q_kind)), (ra 4, .inl (kI, 24, .inl q_salt)), (ra 5, .inl (kI, 24, .inl q_pace)), (ra 6, .inl (kI, 24, .inl q_mute)), (ra 7, .inl (kI, 24, .inl q_late)), (ra 1, .inl (kS, 4, .inr (.inr (.inr (.inr q_kinds))))), (m0, .inr (11, oX11 ra y67)), (ra 13, .inl (kI, 700, .inl q_tape))] := hD
      refine W.widen (k := 0) (n := 0) (Nat.le_of_ble_eq_true rfl) (Nat.le_of_ble_eq_true rfl) ?_
      refine lv_bipush (v := 12) hx hb dX11_readRouter_28 (by decide) ?_
      refine lv_aload_n hx hb dX11_readRouter_30 rfl (lv_at hl 0 rfl) ?_
      refine va_get (D := (dC, dI)) (ci := 11) (v := .ref (ra 2)) (C := RX11) (T := TX11) (N := 61) hx hb hts hin11 hown hK hP 7 rfl rfl 3 (by decide) hw_0 (fun _ h9 => h9) rfl dX11_readRouter_31 ?_
      refine lv_iconst (v := 4) hx hb dX11_readRouter_34 (by decide) ?_
      refine va_iald hx hb hK hP 0 1 rfl rfl (vp_in_nI (n := 4) (by decide) (by decide)) dX11_readRouter_35 ?_
      refine W.eq (g2 := F0 m 36 ls [.int (q_told 4), .int 12]) rfl ?_
      refine lv_iadd hx hb dX11_readRouter_36 ?_
      refine iv_top (a := 12) (b := 23) (iv_add (iv_k (by decide) (by decide) : iv 12 12 12) b62 (by decide) (by decide) (by decide) (by decide)) (fun z73 b74 => ?_)
      refine lv_istore_n (lv' := [(1, .int z73), (0, .ref m0)]) hx hb dX11_readRouter_37 rfl hl (by decide) rfl (fun ls hl => ?_)
      refine lv_aload_n hx hb dX11_readRouter_38 rfl (lv_at hl 1 rfl) ?_
      refine lv_aload_n hx hb dX11_readRouter_39 rfl (lv_at hl 1 rfl) ?_
      refine va_get (D := (dC, dI)) (ci := 11) (v := .ref (ra 1)) (C := RX11) (T := TX11) (N := 61) hx hb hts hin11 hown hK hP 7 rfl rfl 1 (by decide) hw_7 (fun _ h9 => h9) rfl dX11_readRouter_40 ?_
      have hPc := hP.sub (ws' := [(m0, .inr (11, oX11 ra y67)), (ra 13, .inl (kI, 700, .inl q_tape)), (ra 1, .inl (kS, 4, .inr (.inr (.inr (.inr q_kinds)))))]) [7, 8, 6] rfl
      have hDc := hD.sub (ws' := [(m0, .inr (11, oX11 ra y67)), (ra 13, .inl (kI, 700, .inl q_tape)), (ra 1, .inl (kS, 4, .inr (.inr (.inr (.inr q_kinds)))))]) [7, 8, 6] (by decide +kernel) rfl
      have hFc := va_free (wc := [(m0, .inr (11, oX11 ra y67)), (ra 13, .inl (kI, 700, .inl q_tape)), (ra 1, .inl (kS, 4, .inr (.inr (.inr (.inr q_kinds)))))]) hD hS hA [7, 8, 6] rfl
      refine va_calli (va_runV (As := [.ref (ra 1)]) (rest := []) ⟨hx, hb, hml, hown, hts⟩ (s11_which l dC dI kB kI kJ kZ kC kS H.size adK adV m0 ra y67 q_tape (ra 1) q_kinds 4 (hq68) (hq_tape) (by decide) (hki)) (cwV 1 hts gX11_readRouter_X11_which rfl rfl rfl (by decide +kernel) ⟨Nat.le_of_ble_eq_true rfl, Nat.le_of_ble_eq_true rfl⟩) ⟨fun a U g mk q => by obtain ⟨q0, q1, qP, qE, qD, qL⟩ := q; exact ⟨q0, q1, qP, kE_call qE, qD, kL_call qL⟩, va_recv hK hP (ci := 11) (q0 := 7) rfl rfl, fun U hU hW => ⟨rfl, by rw [hU], by rw [hU]; exact hPc, kE_warm hW hE, hDc.weaken (fun _ _ _ _ => trivial), kL_at hKL hS hFc hW hU⟩⟩ rfl rfl hl.1 rfl (lv_room (Nat.le_of_ble_eq_true rfl)) dX11_readRouter_43 ⟨Nat.le_of_ble_eq_true rfl, Nat.le_of_ble_eq_true rfl⟩) hS (fun q _ h => hFc q h) hFc (fun r75 u t H1 locs ht hvm w76 hB hz1 hk1 hS => ?_)
      obtain ⟨hP1, hD1⟩ := hB
      rw [ht] at hP1
      try dsimp only at w76
      obtain ⟨hP, hD⟩ := va_join (wr := [(ra 2, .inl (kI, 8, .inl q_told)), (ra 3, .inl (kI, 24, .inl q_kind)), (ra 4, .inl (kI, 24, .inl q_salt)), (ra 5, .inl (kI, 24, .inl q_pace)), (ra 6, .inl (kI, 24, .inl q_mute)), (ra 7, .inl (kI, 24, .inl q_late))]) (w1 := [(m0, .inr (11, oX11 ra y67)), (ra 13, .inl (kI, 700, .inl q_tape)), (ra 1, .inl (kS, 4, .inr (.inr (.inr (.inr q_kinds)))))]) hP hD [7, 8, 6] [0, 1, 2, 3, 4, 5] rfl rfl (by decide +kernel) (by decide +kernel) hk1 hFc hP1 hD1
      generalize H1 = H at hP hS ⊢
      have hP : va_P (dC, dI) vwCl [(ra 2, .inl (kI, 8, .inl q_told)), (ra 3, .inl (kI, 24, .inl q_kind)), (ra 4, .inl (kI, 24, .inl q_salt)), (ra 5, .inl (kI, 24, .inl q_pace)), (ra 6, .inl (kI, 24, .inl q_mute)), (ra 7, .inl (kI, 24, .inl q_late)), (m0, .inr (11, oX11 ra y67)), (ra 13, .inl (kI, 700, .inl q_tape)), (ra 1, .inl (kS, 4, .inr (.inr (.inr (.inr q_kinds)))))] H := hP
      have hD : va_D A [(ra 2, .inl (kI, 8, .inl q_told)), (ra 3, .inl (kI, 24, .inl q_kind)), (ra 4, .inl (kI, 24, .inl q_salt)), (ra 5, .inl (kI, 24, .inl q_pace)), (ra 6, .inl (kI, 24, .inl q_mute)), (ra 7, .inl (kI, 24, .inl q_late)), (m0, .inr (11, oX11 ra y67)), (ra 13, .inl (kI, 700, .inl q_tape)), (ra 1, .inl (kS, 4, .inr (.inr (.inr (.inr q_kinds)))))] := hD
      refine W.widen (k := 0) (n := 0) (Nat.le_of_ble_eq_true rfl) (Nat.le_of_ble_eq_true rfl) ?_
      refine lv_istore_n (lv' := [(2, .int r75), (1, .int z73), (0, .ref m0)]) hx hb dX11_readRouter_46 rfl hl (by decide) rfl (fun ls hl => ?_)
      refine lv_iload_n hx hb dX11_readRouter_47 rfl (lv_at hl 0 rfl) ?_
      refine lv_iconst (v := (-1)) hx hb dX11_readRouter_48 (by decide) ?_
      refine lv_icmp_ne (tgt := 57) hx hb dX11_readRouter_49 (by decide) (fun c77 => ?_) (fun c77 => ?_)
      · have b78 : iv 0 3 r75 := iv_neLo c77 w76 (iv_k (by decide) (by decide) : iv (-1) (-1) (-1)) (by decide) (by decide)
        exact hJ57 y67 z73 r75 _ _ _ (hq68) (b74) ((iv_w b78 (by decide) (by decide))) (b62) (b64) ((show (x0 2).toInt ≤ (y67 2).toInt from by omega)) ((show y67 3 = x0 3 from hq70)) ((show y67 1 = x0 1 from hq72)) (hP.sub [6, 0, 1, 2, 3, 4, 5, 7, 8] rfl) (hD.sub [6, 0, 1, 2, 3, 4, 5, 7, 8] (by decide +kernel) rfl) hS (lv_sub hl [2, 1, 0] rfl)
      · have b79 : iv (-1) (-1) r75 := iv_eqL c77 (iv_k (by decide) (by decide) : iv (-1) (-1) (-1))
        refine lv_aload_n hx hb dX11_readRouter_52 rfl (lv_at hl 2 rfl) ?_
        refine lv_iconst (v := 1) hx hb dX11_readRouter_53 (by decide) ?_
        have hPc := hP.sub (ws' := [(m0, .inr (11, oX11 ra y67))]) [6] rfl
        have hDc := hD.sub (ws' := [(m0, .inr (11, oX11 ra y67))]) [6] (by decide +kernel) rfl
        have hFc := va_free (wc := [(m0, .inr (11, oX11 ra y67))]) hD hS hA [6] rfl
        refine va_callv (va_runV (As := [.int 1]) (rest := []) ⟨hx, hb, hml, hown, hts⟩ (s11_wrong l dC dI kB kI kJ kZ kC kS H.size m0 ra y67 1 (hq68) ((iv_w (iv_k (by decide) (by decide) : iv 1 1 1) (by decide) (by decide)))) (cwV 1 hts gX11_readRouter_X11_wrong rfl rfl rfl (by decide +kernel) ⟨Nat.le_of_ble_eq_true rfl, Nat.le_of_ble_eq_true rfl⟩) ⟨fun a U g mk q => by obtain ⟨q0, q1, qP, qE, qD⟩ := q; exact ⟨q0, q1, qP, kE_call qE, qD⟩, va_recv hK hP (ci := 11) (q0 := 6) rfl rfl, fun U hU hW => ⟨rfl, by rw [hU], by rw [hU]; exact hPc, kE_warm hW hE, hDc.weaken (fun _ _ _ _ => trivial)⟩⟩ rfl rfl hl.1 rfl (lv_room (Nat.le_of_ble_eq_true rfl)) dX11_readRouter_54 ⟨Nat.le_of_ble_eq_true rfl, Nat.le_of_ble_eq_true rfl⟩) hS (fun q _ h => hFc q h) hFc (fun u t H1 locs ht hvm w81 hB hz1 hk1 hS => ?_)
        obtain ⟨y82, hq83, hq84, hq85, hq86, hq87, hP1, hD1⟩ := hB
        rw [ht] at hP1
        try dsimp only at w81
        obtain ⟨hP, hD⟩ := va_join (wr := [(ra 2, .inl (kI, 8, .inl q_told)), (ra 3, .inl (kI, 24, .inl q_kind)), (ra 4, .inl (kI, 24, .inl q_salt)), (ra 5, .inl (kI, 24, .inl q_pace)), (ra 6, .inl (kI, 24, .inl q_mute)), (ra 7, .inl (kI, 24, .inl q_late)), (ra 13, .inl (kI, 700, .inl q_tape)), (ra 1, .inl (kS, 4, .inr (.inr (.inr (.inr q_kinds)))))]) (w1 := [(m0, .inr (11, oX11 ra y82))]) hP hD [6] [0, 1, 2, 3, 4, 5, 7, 8] rfl rfl (by decide +kernel) (by decide +kernel) hk1 hFc hP1 hD1
        generalize H1 = H at hP hS ⊢
        have hP : va_P (dC, dI) vwCl [(ra 2, .inl (kI, 8, .inl q_told)), (ra 3, .inl (kI, 24, .inl q_kind)), (ra 4, .inl (kI, 24, .inl q_salt)), (ra 5, .inl (kI, 24, .inl q_pace)), (ra 6, .inl (kI, 24, .inl q_mute)), (ra 7, .inl (kI, 24, .inl q_late)), (ra 13, .inl (kI, 700, .inl q_tape)), (ra 1, .inl (kS, 4, .inr (.inr (.inr (.inr q_kinds))))), (m0, .inr (11, oX11 ra y82))] H := hP
        have hD : va_D A [(ra 2, .inl (kI, 8, .inl q_told)), (ra 3, .inl (kI, 24, .inl q_kind)), (ra 4, .inl (kI, 24, .inl q_salt)), (ra 5, .inl (kI, 24, .inl q_pace)), (ra 6, .inl (kI, 24, .inl q_mute)), (ra 7, .inl (kI, 24, .inl q_late)), (ra 13, .inl (kI, 700, .inl q_tape)), (ra 1, .inl (kS, 4, .inr (.inr (.inr (.inr q_kinds))))), (m0, .inr (11, oX11 ra y82))] := hD
        refine W.widen (k := 0) (n := 0) (Nat.le_of_ble_eq_true rfl) (Nat.le_of_ble_eq_true rfl) ?_
        exact hJ57 y82 z73 r75 _ _ _ (hq83) (b74) ((iv_w b79 (by decide) (by decide))) (b62) (b64) ((show (x0 2).toInt ≤ (y82 2).toInt from by omega)) ((show y82 3 = x0 3 from hq86.trans (hq70))) ((show y82 1 = x0 1 from hq87.trans (hq72))) (hP.sub [8, 0, 1, 2, 3, 4, 5, 6, 7] rfl) (hD.sub [8, 0, 1, 2, 3, 4, 5, 6, 7] (by decide +kernel) rfl) hS (lv_sub hl [2, 1, 0] rfl)
    · have b88 : iv 1 5 (x0 8) := iv_neLo c63 (hX 8 : iv 0 5 (x0 8)) (iv_k (by decide) (by decide) : iv 0 0 0) (by decide) (by decide)
      have hP9 := hP.sub (ws' := [(m0, .inr (11, oX11 ra x0)), (ra 2, .inl (kI, 8, .inl q_told)), (ra 3, .inl (kI, 24, .inl q_kind)), (ra 4, .inl (kI, 24, .inl q_salt)), (ra 5, .inl (kI, 24, .inl q_pace)), (ra 6, .inl (kI, 24, .inl q_mute)), (ra 7, .inl (kI, 24, .inl q_late)), (ra 13, .inl (kI, 700, .inl q_tape)), (ra 1, .inl (kS, 4, .inr (.inr (.inr (.inr q_kinds)))))]) [0, 1, 2, 3, 4, 5, 6, 7, 8] rfl
      have hD9 := hD.sub (ws' := [(m0, .inr (11, oX11 ra x0)), (ra 2, .inl (kI, 8, .inl q_told)), (ra 3, .inl (kI, 24, .inl q_kind)), (ra 4, .inl (kI, 24, .inl q_salt)), (ra 5, .inl (kI, 24, .inl q_pace)), (ra 6, .inl (kI, 24, .inl q_mute)), (ra 7, .inl (kI, 24, .inl q_late)), (ra 13, .inl (kI, 700, .inl q_tape)), (ra 1, .inl (kS, 4, .inr (.inr (.inr (.inr q_kinds)))))]) [0, 1, 2, 3, 4, 5, 6, 7, 8] (by decide +kernel) rfl
      exact W.vret hx hb hr (fun t ht hW => ⟨⟨(), rfl, trivial, x0, q_told, q_kind, q_salt, q_pace, q_mute, q_late, hX, hq_told, hq_salt, (show (x0 2).toInt ≤ (x0 2).toInt from by omega), (show x0 3 = x0 3 from rfl), (show ∀ j : Nat, (j : Int) < (q_told 1).toInt → (q_from j).toInt < (q_to j).toInt from hLT), (show ∀ j : Nat, (j : Int) < (q_told 5).toInt → (q_from (20 + j)).toInt < (q_to (20 + j)).toInt from hLD), (show x0 1 = x0 1 from rfl), by rw [ht]; exact hP9, hD9⟩, hS.F ht⟩) hS.2.2 dX11_readRouter_23
  · have b89 : iv 12 12 (q_told 4) := iv_eqL c61 (iv_k (by decide) (by decide) : iv 12 12 12)
    refine lv_aload_n hx hb dX11_readRouter_11 rfl (lv_at hl 0 rfl) ?_
    refine lv_iconst (v := 2) hx hb dX11_readRouter_12 (by decide) ?_
    have hPc := hP.sub (ws' := [(m0, .inr (11, oX11 ra x0))]) [0] rfl
    have hDc := hD.sub (ws' := [(m0, .inr (11, oX11 ra x0))]) [0] (by decide +kernel) rfl
    have hFc := va_free (wc := [(m0, .inr (11, oX11 ra x0))]) hD hS hA [0] rfl
    refine va_callv (va_runV (As := [.int 2]) (rest := []) ⟨hx, hb, hml, hown, hts⟩ (s11_wrong l dC dI kB kI kJ kZ kC kS s.heap.size m0 ra x0 2 (hX) ((iv_w (iv_k (by decide) (by decide) : iv 2 2 2) (by decide) (by decide)))) (cwV 1 hts gX11_readRouter_X11_wrong rfl rfl rfl (by decide +kernel) ⟨Nat.le_of_ble_eq_true rfl, Nat.le_of_ble_eq_true rfl⟩) ⟨fun a U g mk q => by obtain ⟨q0, q1, qP, qE, qD⟩ := q; exact ⟨q0, q1, qP, kE_call qE, qD⟩, va_recv hK hP (ci := 11) (q0 := 0) rfl rfl, fun U hU hW => ⟨rfl, by rw [hU], by rw [hU]; exact hPc, kE_warm hW hE, hDc.weaken (fun _ _ _ _ => trivial)⟩⟩ rfl rfl hl.1 rfl (lv_room (Nat.le_of_ble_eq_true rfl)) dX11_readRouter_13 ⟨Nat.le_of_ble_eq_true rfl, Nat.le_of_ble_eq_true rfl⟩) hS (fun q _ h => hFc q h) hFc (fun u t H1 locs ht hvm w91 hB hz1 hk1 hS => ?_)
    obtain ⟨y92, hq93, hq94, hq95, hq96, hq97, hP1, hD1⟩ := hB
    rw [ht] at hP1
    try dsimp only at w91
    obtain ⟨hP, hD⟩ := va_join (wr := [(ra 2, .inl (kI, 8, .inl q_told)), (ra 3, .inl (kI, 24, .inl q_kind)), (ra 4, .inl (kI, 24, .inl q_salt)), (ra 5, .inl (kI, 24, .inl q_pace)), (ra 6, .inl (kI, 24, .inl q_mute)), (ra 7, .inl (kI, 24, .inl q_late)), (ra 13, .inl (kI, 700, .inl q_tape)), (ra 1, .inl (kS, 4, .inr (.inr (.inr (.inr q_kinds)))))]) (w1 := [(m0, .inr (11, oX11 ra y92))]) hP hD [0] [1, 2, 3, 4, 5, 6, 7, 8] rfl rfl (by decide +kernel) (by decide +kernel) hk1 hFc hP1 hD1
    generalize H1 = H at hP hS ⊢
    have hP : va_P (dC, dI) vwCl [(ra 2, .inl (kI, 8, .inl q_told)), (ra 3, .inl (kI, 24, .inl q_kind)), (ra 4, .inl (kI, 24, .inl q_salt)), (ra 5, .inl (kI, 24, .inl q_pace)), (ra 6, .inl (kI, 24, .inl q_mute)), (ra 7, .inl (kI, 24, .inl q_late)), (ra 13, .inl (kI, 700, .inl q_tape)), (ra 1, .inl (kS, 4, .inr (.inr (.inr (.inr q_kinds))))), (m0, .inr (11, oX11 ra y92))] H := hP
    have hD : va_D A [(ra 2, .inl (kI, 8, .inl q_told)), (ra 3, .inl (kI, 24, .inl q_kind)), (ra 4, .inl (kI, 24, .inl q_salt)), (ra 5, .inl (kI, 24, .inl q_pace)), (ra 6, .inl (kI, 24, .inl q_mute)), (ra 7, .inl (kI, 24, .inl q_late)), (ra 13, .inl (kI, 700, .inl q_tape)), (ra 1, .inl (kS, 4, .inr (.inr (.inr (.inr q_kinds))))), (m0, .inr (11, oX11 ra y92))] := hD
    refine W.widen (k := 0) (n := 0) (Nat.le_of_ble_eq_true rfl) (Nat.le_of_ble_eq_true rfl) ?_
    refine lv_aload_n hx hb dX11_readRouter_16 rfl (lv_at hl 0 rfl) ?_
    refine va_get (D := (dC, dI)) (ci := 11) (v := .int (y92 8)) (C := RX11) (T := TX11) (N := 61) hx hb hts hin11 hown hK hP 8 rfl rfl 22 (by decide) hw_1 (fun _ h9 => h9) rfl dX11_readRouter_17 ?_
    refine lv_if_eq (tgt := 24) hx hb dX11_readRouter_20 (by decide) (fun c9 => absurd c9 (iv_ne hq94 (iv_k (by decide) (by decide) : iv 0 0 0) (by decide))) (fun _ => ?_)
    have hP9 := hP.sub (ws' := [(m0, .inr (11, oX11 ra y92)), (ra 2, .inl (kI, 8, .inl q_told)), (ra 3, .inl (kI, 24, .inl q_kind)), (ra 4, .inl (kI, 24, .inl q_salt)), (ra 5, .inl (kI, 24, .inl q_pace)), (ra 6, .inl (kI, 24, .inl q_mute)), (ra 7, .inl (kI, 24, .inl q_late)), (ra 13, .inl (kI, 700, .inl q_tape)), (ra 1, .inl (kS, 4, .inr (.inr (.inr (.inr q_kinds)))))]) [8, 0, 1, 2, 3, 4, 5, 6, 7] rfl
    have hD9 := hD.sub (ws' := [(m0, .inr (11, oX11 ra y92)), (ra 2, .inl (kI, 8, .inl q_told)), (ra 3, .inl (kI, 24, .inl q_kind)), (ra 4, .inl (kI, 24, .inl q_salt)), (ra 5, .inl (kI, 24, .inl q_pace)), (ra 6, .inl (kI, 24, .inl q_mute)), (ra 7, .inl (kI, 24, .inl q_late)), (ra 13, .inl (kI, 700, .inl q_tape)), (ra 1, .inl (kS, 4, .inr (.inr (.inr (.inr q_kinds)))))]) [8, 0, 1, 2, 3, 4, 5, 6, 7] (by decide +kernel) rfl
    exact W.vret hx hb hr (fun t ht hW => ⟨⟨(), rfl, trivial, y92, q_told, q_kind, q_salt, q_pace, q_mute, q_late, hq93, hq_told, hq_salt, (show (x0 2).toInt ≤ (y92 2).toInt from by omega), (show y92 3 = x0 3 from hq96), (show ∀ j : Nat, (j : Int) < (q_told 1).toInt → (q_from j).toInt < (q_to j).toInt from hLT), (show ∀ j : Nat, (j : Int) < (q_told 5).toInt → (q_from (20 + j)).toInt < (q_to (20 + j)).toInt from hLD), (show y92 1 = x0 1 from hq97), by rw [ht]; exact hP9, hD9⟩, hS.F ht⟩) hS.2.2 dX11_readRouter_23
def rm_s11_readLink : Room := { frames := 3, cells := 0, slots := 0, locals := 64 }
set_option maxHeartbeats 4000000 in
set_option maxRecDepth 100000 in
theorem s11_readLink (l : Launch) (dC : Nat → ClassId) (dI : Nat → Nat → Nat) (kB kI kJ kZ kC kS : ClassId) (sz : Nat) (m0 : Nat) (ra : Nat → Nat) (x0 : Nat → Int32) (q_told : Nat → Int32) (q_from : Nat → Int32) (q_to : Nat → Int32) (q_tape : Nat → Int32) (hX : fI lX11 hX11 x0) (hq_told : fI lTold hTold q_told) (hq_from : fI (fun _ => 0) (fun _ => 11) q_from) (hq_to : fI (fun _ => 0) (fun _ => 11) q_to) (hq_tape : fI (fun _ => 0) (fun _ => 255) q_tape) (hLT : ∀ j : Nat, (j : Int) < (q_told 1).toInt → (q_from j).toInt < (q_to j).toInt) (hLD : ∀ j : Nat, (j : Int) < (q_told 5).toInt → (q_from (20 + j)).toInt < (q_to (20 + j)).toInt) : Met l yX11_readLink wsX11_readLink rm_s11_readLink (va_Pc [.ref m0] (fun U => U.heap.size = sz ∧ va_P (dC, dI) vwCl [(m0, .inr (11, oX11 ra x0)), (ra 2, .inl (kI, 8, .inl q_told)), (ra 8, .inl (kI, 40, .inl q_from)), (ra 9, .inl (kI, 40, .inl q_to)), (ra 13, .inl (kI, 700, .inl q_tape))] U.heap ∧ kE dC dI kB kI kJ kZ kC kS U ∧ va_D (fun _ => True) [(m0, .inr (11, oX11 ra x0)), (ra 2, .inl (kI, 8, .inl q_told)), (ra 8, .inl (kI, 40, .inl q_from)), (ra 9, .inl (kI, 40, .inl q_to)), (ra 13, .inl (kI, 700, .inl q_tape))])) (va_Qv (fun (_ : Unit) => True) (fun _ t => ∃ (x0' : Nat → Int32) (q_told' : Nat → Int32) (q_from' : Nat → Int32) (q_to' : Nat → Int32), fI lX11 hX11 x0' ∧ fI lTold hTold q_told' ∧ fI (fun _ => 0) (fun _ => 11) q_from' ∧ fI (fun _ => 0) (fun _ => 11) q_to' ∧ ((x0 2).toInt ≤ (x0' 2).toInt) ∧ (x0' 3 = x0 3) ∧ (∀ j : Nat, (j : Int) < (q_told' 1).toInt → (q_from' j).toInt < (q_to' j).toInt) ∧ (∀ j : Nat, (j : Int) < (q_told' 5).toInt → (q_from' (20 + j)).toInt < (q_to' (20 + j)).toInt) ∧ (x0' 1 = x0 1) ∧ va_P (dC, dI) vwCl [(m0, .inr (11, oX11 ra x0')), (ra 2, .inl (kI, 8, .inl q_told')), (ra 8, .inl (kI, 40, .inl q_from')), (ra 9, .inl (kI, 40, .inl q_to')), (ra 13, .inl (kI, 700, .inl q_tape))] t.heap ∧ va_D (va_A [(m0, .inr (11, oX11 ra x0)), (ra 2, .inl (kI, 8, .inl q_told)), (ra 8, .inl (kI, 40, .inl q_from)), (ra 9, .inl (kI, 40, .inl q_to)), (ra 13, .inl (kI, 700, .inl q_tape))] sz) [(m0, .inr (11, oX11 ra x0')), (ra 2, .inl (kI, 8, .inl q_told')), (ra 8, .inl (kI, 40, .inl q_from')), (ra 9, .inl (kI, 40, .inl q_to')), (ra 13, .inl (kI, 700, .inl q_tape))]) (va_A [(m0, .inr (11, oX11 ra x0)), (ra 2, .inl (kI, 8, .inl q_told)), (ra 8, .inl (kI, 40, .inl q_from)), (ra 9, .inl (kI, 40, .inl q_to)), (ra 13, .inl (kI, 700, .inl q_tape))] sz)) 0 0 (va_A [(m0, .inr (11, oX11 ra x0)), (ra 2, .inl (kI, 8, .inl q_told)), (ra 8, .inl (kI, 40, .inl q_from)), (ra 9, .inl (kI, 40, .inl q_to)), (ra 13, .inl (kI, 700, .inl q_tape))] sz) := by
  refine Met.ofW (cc := cX11_readLink) (maxL := 3) (ret := none) (by decide) rfl ?_
  intro p e s m args0 below meth c s₁ B hml hv
  obtain ⟨hargs, hsz, hP, hE, hD0⟩ := hv
  have hx := B.exec
  have hb := B.bytes
  have hr := B.returns
  have hts := atoms_spec (ws := wsX11_readLink) B.pre
  have hown : s.vm.findClass RX11 = some m.cls := findClass_of_methodNamed B.named
  have hlocks := B.notSynchronized
  have hK := hE.1
  have hin11 : ∀ w ∈ wsX110, w ∈ wsX11_readLink := fun _ h9 => List.mem_cons_of_mem _ (List.mem_append_right _ h9)
  have hw_0 := hts (.fieldLink RX11 34 "PathProberModel" "told" "[I") (List.mem_of_getElem? (i := 1) (by decide +kernel))
  have hw_1 := hts (.fieldLink RX11 184 "PathProberModel" "bad" "I") (List.mem_of_getElem? (i := 2) (by decide +kernel))
  have hw_2 := hts (.fieldLink RX11 53 "PathProberModel" "from" "[I") (List.mem_of_getElem? (i := 3) (by decide +kernel))
  have hw_3 := hts (.fieldLink RX11 56 "PathProberModel" "to" "[I") (List.mem_of_getElem? (i := 4) (by decide +kernel))
  subst hsz
  have hD := hD0.self (sz := s.heap.size)
  generalize hAe : va_A [(m0, .inr (11, oX11 ra x0)), (ra 2, .inl (kI, 8, .inl q_told)), (ra 8, .inl (kI, 40, .inl q_from)), (ra 9, .inl (kI, 40, .inl q_to)), (ra 13, .inl (kI, 700, .inl q_tape))] s.heap.size = A at hD ⊢
  have hA : ∀ q : Nat, s.heap.size ≤ q → A q := fun q h => by rw [← hAe]; exact Or.inr h
  have hS : va_S A s.heap s.heap [] := va_S.rf
  have hP : va_P (dC, dI) vwCl [(m0, .inr (11, oX11 ra x0)), (ra 2, .inl (kI, 8, .inl q_told)), (ra 8, .inl (kI, 40, .inl q_from)), (ra 9, .inl (kI, 40, .inl q_to)), (ra 13, .inl (kI, 700, .inl q_tape))] s.heap := hP
  have hl := lv_entry ([.ref m0]) (n := 3) (Nat.le_of_ble_eq_true rfl)
  have hla : entryFrame m args0 3 = entryFrame m ([.ref m0] : List Value).toArray 3 := by rw [hargs]
  rw [hla, lg_entry_eq]
  generalize (lg_sl ([.ref m0]) ++ List.replicate (3 - (lg_sl ([.ref m0])).length) Slot.unset).toArray = ls at hl ⊢
  have hl : lv_has ls 3 [(0, .ref m0)] := hl
  refine lv_aload_n hx hb dX11_readLink_0 rfl (lv_at hl 0 rfl) ?_
  refine va_get (D := (dC, dI)) (ci := 11) (v := .ref (ra 2)) (C := RX11) (T := TX11) (N := 61) hx hb hts hin11 hown hK hP 0 rfl rfl 3 (by decide) hw_0 (fun _ h9 => h9) rfl dX11_readLink_1 ?_
  refine lv_iconst (v := 5) hx hb dX11_readLink_4 (by decide) ?_
  refine va_iald hx hb hK hP 1 1 rfl rfl (vp_in_nI (n := 5) (by decide) (by decide)) dX11_readLink_5 ?_
  refine W.eq (g2 := F0 m 6 ls [.int (q_told 5)]) rfl ?_
  refine lv_bipush (v := 20) hx hb dX11_readLink_6 (by decide) ?_
  refine lv_icmp_ne (tgt := 16) hx hb dX11_readLink_8 (by decide) (fun c1 => ?_) (fun c1 => ?_)
  · have b2 : iv 0 19 (q_told 5) := iv_neHi c1 (hq_told 5 : iv 0 20 (q_told 5)) (iv_k (by decide) (by decide) : iv 20 20 20) (by decide) (by decide)
    refine lv_aload_n hx hb dX11_readLink_16 rfl (lv_at hl 0 rfl) ?_
    refine va_get (D := (dC, dI)) (ci := 11) (v := .int (x0 8)) (C := RX11) (T := TX11) (N := 61) hx hb hts hin11 hown hK hP 0 rfl rfl 22 (by decide) hw_1 (fun _ h9 => h9) rfl dX11_readLink_17 ?_
    refine lv_if_eq (tgt := 24) hx hb dX11_readLink_20 (by decide) (fun c3 => ?_) (fun c3 => ?_)
    · have b4 : iv 0 0 (x0 8) := iv_eqL c3 (iv_k (by decide) (by decide) : iv 0 0 0)
      refine lv_aload_n hx hb dX11_readLink_24 rfl (lv_at hl 0 rfl) ?_
      have hPc := hP.sub (ws' := [(m0, .inr (11, oX11 ra x0)), (ra 13, .inl (kI, 700, .inl q_tape))]) [0, 4] rfl
      have hDc := hD.sub (ws' := [(m0, .inr (11, oX11 ra x0)), (ra 13, .inl (kI, 700, .inl q_tape))]) [0, 4] (by decide) rfl
      have hFc := va_free (wc := [(m0, .inr (11, oX11 ra x0)), (ra 13, .inl (kI, 700, .inl q_tape))]) hD hS hA [0, 4] rfl
      refine va_callv (va_runV (As := []) (rest := []) ⟨hx, hb, hml, hown, hts⟩ (s11_stepOn l dC dI kB kI kJ kZ kC kS s.heap.size m0 ra x0 q_tape (hX) (hq_tape)) (cwV 0 hts gX11_readLink_X11_stepOn rfl rfl rfl (by decide +kernel) ⟨Nat.le_of_ble_eq_true rfl, Nat.le_of_ble_eq_true rfl⟩) ⟨fun a U g mk q => by obtain ⟨q0, q1, qP, qE, qD⟩ := q; exact ⟨q0, q1, qP, kE_call qE, qD⟩, va_recv hK hP (ci := 11) (q0 := 0) rfl rfl, fun U hU hW => ⟨rfl, by rw [hU], by rw [hU]; exact hPc, kE_warm hW hE, hDc.weaken (fun _ _ _ _ => trivial)⟩⟩ rfl rfl hl.1 rfl (lv_room (Nat.le_of_ble_eq_true rfl)) dX11_readLink_25 ⟨Nat.le_of_ble_eq_true rfl, Nat.le_of_ble_eq_true rfl⟩) hS (fun q _ h => hFc q h) hFc (fun u t H1 locs ht hvm w6 hB hz1 hk1 hS => ?_)
      obtain ⟨y7, hq8, hq9, hq10, hq11, hq12, hP1, hD1⟩ := hB
      rw [ht] at hP1
      try dsimp only at w6
      obtain ⟨hP, hD⟩ := va_join (wr := [(ra 2, .inl (kI, 8, .inl q_told)), (ra 8, .inl (kI, 40, .inl q_from)), (ra 9, .inl (kI, 40, .inl q_to))]) (w1 := [(m0, .inr (11, oX11 ra y7)), (ra 13, .inl (kI, 700, .inl q_tape))]) hP hD [0, 4] [1, 2, 3] rfl rfl (by decide) (by decide) hk1 hFc hP1 hD1
      generalize H1 = H at hP hS ⊢
      have hP : va_P (dC, dI) vwCl [(ra 2, .inl (kI, 8, .inl q_told)), (ra 8, .inl (kI, 40, .inl q_from)), (ra 9, .inl (kI, 40, .inl q_to)), (m0, .inr (11, oX11 ra y7)), (ra 13, .inl (kI, 700, .inl q_tape))] H := hP
      have hD : va_D A [(ra 2, .inl (kI, 8, .inl q_told)), (ra 8, .inl (kI, 40, .inl q_from)), (ra 9, .inl (kI, 40, .inl q_to)), (m0, .inr (11, oX11 ra y7)), (ra 13, .inl (kI, 700, .inl q_tape))] := hD
      refine W.widen (k := 0) (n := 0) (Nat.le_of_ble_eq_true rfl) (Nat.le_of_ble_eq_true rfl) ?_
      refine lv_aload_n hx hb dX11_readLink_28 rfl (lv_at hl 0 rfl) ?_
      have hPc := hP.sub (ws' := [(m0, .inr (11, oX11 ra y7)), (ra 2, .inl (kI, 8, .inl q_told))]) [3, 0] rfl
      have hDc := hD.sub (ws' := [(m0, .inr (11, oX11 ra y7)), (ra 2, .inl (kI, 8, .inl q_told))]) [3, 0] (by decide) rfl
      have hFc := va_free (wc := [(m0, .inr (11, oX11 ra y7)), (ra 2, .inl (kI, 8, .inl q_told))]) hD hS hA [3, 0] rfl
      refine va_calli (va_runV (As := []) (rest := []) ⟨hx, hb, hml, hown, hts⟩ (s11_routerNow l dC dI kB kI kJ kZ kC kS H.size m0 ra y7 q_told (hq8) (hq_told)) (cwV 0 hts gX11_readLink_X11_routerNow rfl rfl rfl (by decide +kernel) ⟨Nat.le_of_ble_eq_true rfl, Nat.le_of_ble_eq_true rfl⟩) ⟨fun a U g mk q => by obtain ⟨q0, q1, qP, qE, qD⟩ := q; exact ⟨q0, q1, qP, kE_call qE, qD⟩, va_recv hK hP (ci := 11) (q0 := 3) rfl rfl, fun U hU hW => ⟨rfl, by rw [hU], by rw [hU]; exact hPc, kE_warm hW hE, hDc.weaken (fun _ _ _ _ => trivial)⟩⟩ rfl rfl hl.1 rfl (lv_room (Nat.le_of_ble_eq_true rfl)) dX11_readLink_29 ⟨Nat.le_of_ble_eq_true rfl, Nat.le_of_ble_eq_true rfl⟩) hS (fun q _ h => hFc q h) hFc (fun r13 u t H1 locs ht hvm w14 hB hz1 hk1 hS => ?_)
      obtain ⟨y15, hq16, hq17, hq18, hq19, hP1, hD1⟩ := hB
      rw [ht] at hP1
      try dsimp only at w14
      obtain ⟨hP, hD⟩ := va_join (wr := [(ra 8, .inl (kI, 40, .inl q_from)), (ra 9, .inl (kI, 40, .inl q_to)), (ra 13, .inl (kI, 700, .inl q_tape))]) (w1 := [(m0, .inr (11, oX11 ra y15)), (ra 2, .inl (kI, 8, .inl q_told))]) hP hD [3, 0] [1, 2, 4] rfl rfl (by decide) (by decide) hk1 hFc hP1 hD1
      generalize H1 = H at hP hS ⊢
      have hP : va_P (dC, dI) vwCl [(ra 8, .inl (kI, 40, .inl q_from)), (ra 9, .inl (kI, 40, .inl q_to)), (ra 13, .inl (kI, 700, .inl q_tape)), (m0, .inr (11, oX11 ra y15)), (ra 2, .inl (kI, 8, .inl q_told))] H := hP
      have hD : va_D A [(ra 8, .inl (kI, 40, .inl q_from)), (ra 9, .inl (kI, 40, .inl q_to)), (ra 13, .inl (kI, 700, .inl q_tape)), (m0, .inr (11, oX11 ra y15)), (ra 2, .inl (kI, 8, .inl q_told))] := hD
      refine W.widen (k := 0) (n := 0) (Nat.le_of_ble_eq_true rfl) (Nat.le_of_ble_eq_true rfl) ?_
      refine lv_istore_n (lv' := [(1, .int r13), (0, .ref m0)]) hx hb dX11_readLink_32 rfl hl (by decide) rfl (fun ls hl => ?_)
      refine lv_aload_n hx hb dX11_readLink_33 rfl (lv_at hl 1 rfl) ?_
      refine va_get (D := (dC, dI)) (ci := 11) (v := .int (y15 8)) (C := RX11) (T := TX11) (N := 61) hx hb hts hin11 hown hK hP 3 rfl rfl 22 (by decide) hw_1 (fun _ h9 => h9) rfl dX11_readLink_34 ?_
      refine lv_if_ne (tgt := 54) hx hb dX11_readLink_37 (by decide) (fun c20 => ?_) (fun c20 => ?_)
      · have b21 : iv 1 5 (y15 8) := iv_neLo c20 (hq16 8 : iv 0 5 (y15 8)) (iv_k (by decide) (by decide) : iv 0 0 0) (by decide) (by decide)
        refine lv_aload_n hx hb dX11_readLink_54 rfl (lv_at hl 1 rfl) ?_
        refine va_get (D := (dC, dI)) (ci := 11) (v := .int (y15 8)) (C := RX11) (T := TX11) (N := 61) hx hb hts hin11 hown hK hP 3 rfl rfl 22 (by decide) hw_1 (fun _ h9 => h9) rfl dX11_readLink_55 ?_
        refine lv_if_ne (tgt := 65) hx hb dX11_readLink_58 (by decide) (fun _ => ?_) (fun c9 => absurd c9 (c20))
        refine lv_aload_n hx hb dX11_readLink_65 rfl (lv_at hl 1 rfl) ?_
        have hPc := hP.sub (ws' := [(m0, .inr (11, oX11 ra y15)), (ra 2, .inl (kI, 8, .inl q_told))]) [3, 4] rfl
        have hDc := hD.sub (ws' := [(m0, .inr (11, oX11 ra y15)), (ra 2, .inl (kI, 8, .inl q_told))]) [3, 4] (by decide) rfl
        have hFc := va_free (wc := [(m0, .inr (11, oX11 ra y15)), (ra 2, .inl (kI, 8, .inl q_told))]) hD hS hA [3, 4] rfl
        refine va_calli (va_runV (As := []) (rest := []) ⟨hx, hb, hml, hown, hts⟩ (s11_routerNow l dC dI kB kI kJ kZ kC kS H.size m0 ra y15 q_told (hq16) (hq_told)) (cwV 0 hts gX11_readLink_X11_routerNow rfl rfl rfl (by decide +kernel) ⟨Nat.le_of_ble_eq_true rfl, Nat.le_of_ble_eq_true rfl⟩) ⟨fun a U g mk q => by obtain ⟨q0, q1, qP, qE, qD⟩ := q; exact ⟨q0, q1, qP, kE_call qE, qD⟩, va_recv hK hP (ci := 11) (q0 := 3) rfl rfl, fun U hU hW => ⟨rfl, by rw [hU], by rw [hU]; exact hPc, kE_warm hW hE, hDc.weaken (fun _ _ _ _ => trivial)⟩⟩ rfl rfl hl.1 rfl (lv_room (Nat.le_of_ble_eq_true rfl)) dX11_readLink_66 ⟨Nat.le_of_ble_eq_true rfl, Nat.le_of_ble_eq_true rfl⟩) hS (fun q _ h => hFc q h) hFc (fun r22 u t H1 locs ht hvm w23 hB hz1 hk1 hS => ?_)
        obtain ⟨y24, hq25, hq26, hq27, hq28, hP1, hD1⟩ := hB
        rw [ht] at hP1
        try dsimp only at w23
        obtain ⟨hP, hD⟩ := va_join (wr := [(ra 8, .inl (kI, 40, .inl q_from)), (ra 9, .inl (kI, 40, .inl q_to)), (ra 13, .inl (kI, 700, .inl q_tape))]) (w1 := [(m0, .inr (11, oX11 ra y24)), (ra 2, .inl (kI, 8, .inl q_told))]) hP hD [3, 4] [0, 1, 2] rfl rfl (by decide) (by decide) hk1 hFc hP1 hD1
        generalize H1 = H at hP hS ⊢
        have hP : va_P (dC, dI) vwCl [(ra 8, .inl (kI, 40, .inl q_from)), (ra 9, .inl (kI, 40, .inl q_to)), (ra 13, .inl (kI, 700, .inl q_tape)), (m0, .inr (11, oX11 ra y24)), (ra 2, .inl (kI, 8, .inl q_told))] H := hP
        have hD : va_D A [(ra 8, .inl (kI, 40, .inl q_from)), (ra 9, .inl (kI, 40, .inl q_to)), (ra 13, .inl (kI, 700, .inl q_tape)), (m0, .inr (11, oX11 ra y24)), (ra 2, .inl (kI, 8, .inl q_told))] := hD
        refine W.widen (k := 0) (n := 0) (Nat.le_of_ble_eq_true rfl) (Nat.le_of_ble_eq_true rfl) ?_
        refine lv_istore_n (lv' := [(2, .int r22), (1, .int r13), (0, .ref m0)]) hx hb dX11_readLink_69 rfl hl (by decide) rfl (fun ls hl => ?_)
        refine lv_aload_n hx hb dX11_readLink_70 rfl (lv_at hl 2 rfl) ?_
        refine va_get (D := (dC, dI)) (ci := 11) (v := .int (y24 8)) (C := RX11) (T := TX11) (N := 61) hx hb hts hin11 hown hK hP 3 rfl rfl 22 (by decide) hw_1 (fun _ h9 => h9) rfl dX11_readLink_71 ?_
        refine lv_if_ne (tgt := 96) hx hb dX11_readLink_74 (by decide) (fun c29 => ?_) (fun c29 => ?_)
        · have b30 : iv 1 5 (y24 8) := iv_neLo c29 (hq25 8 : iv 0 5 (y24 8)) (iv_k (by decide) (by decide) : iv 0 0 0) (by decide) (by decide)
          refine lv_aload_n hx hb dX11_readLink_96 rfl (lv_at hl 2 rfl) ?_
          refine va_get (D := (dC, dI)) (ci := 11) (v := .int (y24 8)) (C := RX11) (T := TX11) (N := 61) hx hb hts hin11 hown hK hP 3 rfl rfl 22 (by decide) hw_1 (fun _ h9 => h9) rfl dX11_readLink_97 ?_
          refine lv_if_eq (tgt := 104) hx hb dX11_readLink_100 (by decide) (fun c9 => absurd c9 (c29)) (fun _ => ?_)
          have hP9 := hP.sub (ws' := [(m0, .inr (11, oX11 ra y24)), (ra 2, .inl (kI, 8, .inl q_told)), (ra 8, .inl (kI, 40, .inl q_from)), (ra 9, .inl (kI, 40, .inl q_to)), (ra 13, .inl (kI, 700, .inl q_tape))]) [3, 4, 0, 1, 2] rfl
          have hD9 := hD.sub (ws' := [(m0, .inr (11, oX11 ra y24)), (ra 2, .inl (kI, 8, .inl q_told)), (ra 8, .inl (kI, 40, .inl q_from)), (ra 9, .inl (kI, 40, .inl q_to)), (ra 13, .inl (kI, 700, .inl q_tape))]) [3, 4, 0, 1, 2] (by decide) rfl
          exact W.vret hx hb hr (fun t ht hW => ⟨⟨(), rfl, trivial, y24, q_told, q_from, q_to, hq25, hq_told, hq_from, hq_to, (show (x0 2).toInt ≤ (y24 2).toInt from by omega), (show y24 3 = x0 3 from hq27.trans (hq18.trans (hq10))), (show ∀ j : Nat, (j : Int) < (q_told 1).toInt → (q_from j).toInt < (q_to j).toInt from hLT), (show ∀ j : Nat, (j : Int) < (q_told 5).toInt → (q_from (20 + j)).toInt < (q_to (20 + j)).toInt from hLD), (show y24 1 = x0 1 from hq28.trans (hq19.trans (hq12))), by rw [ht]; exact hP9, hD9⟩, hS.F ht⟩) hS.2.2 dX11_readLink_103
        · have b31 : iv 0 0 (y24 8) := iv_eqL c29 (iv_k (by decide) (by decide) : iv 0 0 0)
          refine lv_iload_n hx hb dX11_readLink_77 rfl (lv_at hl 0 rfl) ?_
          refine lv_iload_n hx hb dX11_readLink_78 rfl (lv_at hl 1 rfl) ?_
          refine lv_icmp_le (tgt := 91) hx hb dX11_readLink_79 (by decide) (fun c32 => ?_) (fun c32 => ?_)
          · refine lv_aload_n hx hb dX11_readLink_91 rfl (lv_at hl 2 rfl) ?_
            refine lv_iconst (v := 5) hx hb dX11_readLink_92 (by decide) ?_
            have hPc := hP.sub (ws' := [(m0, .inr (11, oX11 ra y24))]) [3] rfl
            have hDc := hD.sub (ws' := [(m0, .inr (11, oX11 ra y24))]) [3] (by decide) rfl
            have hFc := va_free (wc := [(m0, .inr (11, oX11 ra y24))]) hD hS hA [3] rfl
            refine va_callv (va_runV (As := [.int 5]) (rest := []) ⟨hx, hb, hml, hown, hts⟩ (s11_wrong l dC dI kB kI kJ kZ kC kS H.size m0 ra y24 5 (hq25) ((iv_w (iv_k (by decide) (by decide) : iv 5 5 5) (by decide) (by decide)))) (cwV 1 hts gX11_readLink_X11_wrong rfl rfl rfl (by decide +kernel) ⟨Nat.le_of_ble_eq_true rfl, Nat.le_of_ble_eq_true rfl⟩) ⟨fun a U g mk q => by obtain ⟨q0, q1, qP, qE, qD⟩ := q; exact ⟨q0, q1, qP, kE_call qE, qD⟩, va_recv hK hP (ci := 11) (q0 := 3) rfl rfl, fun U hU hW => ⟨rfl, by rw [hU], by rw [hU]; exact hPc, kE_warm hW hE, hDc.weaken (fun _ _ _ _ => trivial)⟩⟩ rfl rfl hl.1 rfl (lv_room (Nat.le_of_ble_eq_true rfl)) dX11_readLink_93 ⟨Nat.le_of_ble_eq_true rfl, Nat.le_of_ble_eq_true rfl⟩) hS (fun q _ h => hFc q h) hFc (fun u t H1 locs ht hvm w34 hB hz1 hk1 hS => ?_)
            obtain ⟨y35, hq36, hq37, hq38, hq39, hq40, hP1, hD1⟩ := hB
            rw [ht] at hP1
            try dsimp only at w34
            obtain ⟨hP, hD⟩ := va_join (wr := [(ra 8, .inl (kI, 40, .inl q_from)), (ra 9, .inl (kI, 40, .inl q_to)), (ra 13, .inl (kI, 700, .inl q_tape)), (ra 2, .inl (kI, 8, .inl q_told))]) (w1 := [(m0, .inr (11, oX11 ra y35))]) hP hD [3] [0, 1, 2, 4] rfl rfl (by decide) (by decide) hk1 hFc hP1 hD1
            generalize H1 = H at hP hS ⊢
            have hP : va_P (dC, dI) vwCl [(ra 8, .inl (kI, 40, .inl q_from)), (ra 9, .inl (kI, 40, .inl q_to)), (ra 13, .inl (kI, 700, .inl q_tape)), (ra 2, .inl (kI, 8, .inl q_told)), (m0, .inr (11, oX11 ra y35))] H := hP
            have hD : va_D A [(ra 8, .inl (kI, 40, .inl q_from)), (ra 9, .inl (kI, 40, .inl q_to)), (ra 13, .inl (kI, 700, .inl q_tape)), (ra 2, .inl (kI, 8, .inl q_told)), (m0, .inr (11, oX11 ra y35))] := hD
            refine W.widen (k := 0) (n := 0) (Nat.le_of_ble_eq_true rfl) (Nat.le_of_ble_eq_true rfl) ?_
            refine lv_aload_n hx hb dX11_readLink_96 rfl (lv_at hl 2 rfl) ?_
            refine va_get (D := (dC, dI)) (ci := 11) (v := .int (y35 8)) (C := RX11) (T := TX11) (N := 61) hx hb hts hin11 hown hK hP 4 rfl rfl 22 (by decide) hw_1 (fun _ h9 => h9) rfl dX11_readLink_97 ?_
            refine lv_if_eq (tgt := 104) hx hb dX11_readLink_100 (by decide) (fun c9 => absurd c9 (iv_ne hq37 (iv_k (by decide) (by decide) : iv 0 0 0) (by decide))) (fun _ => ?_)
            have hP9 := hP.sub (ws' := [(m0, .inr (11, oX11 ra y35)), (ra 2, .inl (kI, 8, .inl q_told)), (ra 8, .inl (kI, 40, .inl q_from)), (ra 9, .inl (kI, 40, .inl q_to)), (ra 13, .inl (kI, 700, .inl q_tape))]) [4, 3, 0, 1, 2] rfl
            have hD9 := hD.sub (ws' := [(m0, .inr (11, oX11 ra y35)), (ra 2, .inl (kI, 8, .inl q_told)), (ra 8, .inl (kI, 40, .inl q_from)), (ra 9, .inl (kI, 40, .inl q_to)), (ra 13, .inl (kI, 700, .inl q_tape))]) [4, 3, 0, 1, 2] (by decide) rfl
            exact W.vret hx hb hr (fun t ht hW => ⟨⟨(), rfl, trivial, y35, q_told, q_from, q_to, hq36, hq_told, hq_from, hq_to, (show (x0 2).toInt ≤ (y35 2).toInt from by omega), (show y35 3 = x0 3 from hq39.trans (hq27.trans (hq18.trans (hq10)))), (show ∀ j : Nat, (j : Int) < (q_told 1).toInt → (q_from j).toInt < (q_to j).toInt from hLT), (show ∀ j : Nat, (j : Int) < (q_told 5).toInt → (q_from (20 + j)).toInt < (q_to (20 + j)).toInt from hLD), (show y35 1 = x0 1 from hq40.trans (hq28.trans (hq19.trans (hq12)))), by rw [ht]; exact hP9, hD9⟩, hS.F ht⟩) hS.2.2 dX11_readLink_103
          · have b41 : iv 0 10 r13 := iv_ltL (Int32.not_le.mp c32) w14 w23 (by decide) (by decide)
            have b42 : iv 1 11 r22 := iv_ltR (Int32.not_le.mp c32) w14 w23 (by decide) (by decide)
            refine lv_aload_n hx hb dX11_readLink_82 rfl (lv_at hl 2 rfl) ?_
            refine lv_iload_n hx hb dX11_readLink_83 rfl (lv_at hl 1 rfl) ?_
            refine lv_iload_n hx hb dX11_readLink_84 rfl (lv_at hl 0 rfl) ?_
            have hPc := hP.sub (ws' := [(m0, .inr (11, oX11 ra y24)), (ra 2, .inl (kI, 8, .inl q_told)), (ra 8, .inl (kI, 40, .inl q_from)), (ra 9, .inl (kI, 40, .inl q_to))]) [3, 4, 0, 1] rfl
            have hDc := hD.sub (ws' := [(m0, .inr (11, oX11 ra y24)), (ra 2, .inl (kI, 8, .inl q_told)), (ra 8, .inl (kI, 40, .inl q_from)), (ra 9, .inl (kI, 40, .inl q_to))]) [3, 4, 0, 1] (by decide) rfl
            have hFc := va_free (wc := [(m0, .inr (11, oX11 ra y24)), (ra 2, .inl (kI, 8, .inl q_told)), (ra 8, .inl (kI, 40, .inl q_from)), (ra 9, .inl (kI, 40, .inl q_to))]) hD hS hA [3, 4, 0, 1] rfl
            refine va_calli (va_runV (As := [.int r13, .int r22]) (rest := []) ⟨hx, hb, hml, hown, hts⟩ (s11_hasLink l dC dI kB kI kJ kZ kC kS H.size m0 ra y24 q_told q_from q_to r13 r22 (hq25) (hq_told) (hq_from) (hq_to)) (cwV 2 hts gX11_readLink_X11_hasLink rfl rfl rfl (by decide +kernel) ⟨Nat.le_of_ble_eq_true rfl, Nat.le_of_ble_eq_true rfl⟩) ⟨fun a U g mk q => by obtain ⟨q0, q1, qP, qE, qD⟩ := q; exact ⟨q0, q1, qP, kE_call qE, qD⟩, va_recv hK hP (ci := 11) (q0 := 3) rfl rfl, fun U hU hW => ⟨rfl, by rw [hU], by rw [hU]; exact hPc, kE_warm hW hE, hDc.weaken (fun _ _ _ _ => trivial)⟩⟩ rfl rfl hl.1 rfl (lv_room (Nat.le_of_ble_eq_true rfl)) dX11_readLink_85 ⟨Nat.le_of_ble_eq_true rfl, Nat.le_of_ble_eq_true rfl⟩) hS (fun q _ h => hFc q h) hFc (fun r43 u t H1 locs ht hvm w44 hB hz1 hk1 hS => ?_)
            obtain ⟨hP1, hD1⟩ := hB
            rw [ht] at hP1
            try dsimp only at w44
            obtain ⟨hP, hD⟩ := va_join (wr := [(ra 13, .inl (kI, 700, .inl q_tape))]) (w1 := [(m0, .inr (11, oX11 ra y24)), (ra 2, .inl (kI, 8, .inl q_told)), (ra 8, .inl (kI, 40, .inl q_from)), (ra 9, .inl (kI, 40, .inl q_to))]) hP hD [3, 4, 0, 1] [2] rfl rfl (by decide) (by decide) hk1 hFc hP1 hD1
            generalize H1 = H at hP hS ⊢
            have hP : va_P (dC, dI) vwCl [(ra 13, .inl (kI, 700, .inl q_tape)), (m0, .inr (11, oX11 ra y24)), (ra 2, .inl (kI, 8, .inl q_told)), (ra 8, .inl (kI, 40, .inl q_from)), (ra 9, .inl (kI, 40, .inl q_to))] H := hP
            have hD : va_D A [(ra 13, .inl (kI, 700, .inl q_tape)), (m0, .inr (11, oX11 ra y24)), (ra 2, .inl (kI, 8, .inl q_told)), (ra 8, .inl (kI, 40, .inl q_from)), (ra 9, .inl (kI, 40, .inl q_to))] := hD
            refine W.widen (k := 0) (n := 0) (Nat.le_of_ble_eq_true rfl) (Nat.le_of_ble_eq_true rfl) ?_
            refine lv_if_eq (tgt := 96) hx hb dX11_readLink_88 (by decide) (fun c45 => ?_) (fun c45 => ?_)
            · have b46 : iv 0 0 r43 := iv_eqL c45 (iv_k (by decide) (by decide) : iv 0 0 0)
              refine lv_aload_n hx hb dX11_readLink_96 rfl (lv_at hl 2 rfl) ?_
              refine va_get (D := (dC, dI)) (ci := 11) (v := .int (y24 8)) (C := RX11) (T := TX11) (N := 61) hx hb hts hin11 hown hK hP 1 rfl rfl 22 (by decide) hw_1 (fun _ h9 => h9) rfl dX11_readLink_97 ?_
              refine lv_if_eq (tgt := 104) hx hb dX11_readLink_100 (by decide) (fun _ => ?_) (fun c9 => absurd (c29) c9)
              refine lv_aload_n hx hb dX11_readLink_104 rfl (lv_at hl 2 rfl) ?_
              have hPc := hP.sub (ws' := [(m0, .inr (11, oX11 ra y24)), (ra 13, .inl (kI, 700, .inl q_tape))]) [1, 0] rfl
              have hDc := hD.sub (ws' := [(m0, .inr (11, oX11 ra y24)), (ra 13, .inl (kI, 700, .inl q_tape))]) [1, 0] (by decide) rfl
              have hFc := va_free (wc := [(m0, .inr (11, oX11 ra y24)), (ra 13, .inl (kI, 700, .inl q_tape))]) hD hS hA [1, 0] rfl
              refine va_callv (va_runV (As := []) (rest := []) ⟨hx, hb, hml, hown, hts⟩ (s11_stepOn l dC dI kB kI kJ kZ kC kS H.size m0 ra y24 q_tape (hq25) (hq_tape)) (cwV 0 hts gX11_readLink_X11_stepOn rfl rfl rfl (by decide +kernel) ⟨Nat.le_of_ble_eq_true rfl, Nat.le_of_ble_eq_true rfl⟩) ⟨fun a U g mk q => by obtain ⟨q0, q1, qP, qE, qD⟩ := q; exact ⟨q0, q1, qP, kE_call qE, qD⟩, va_recv hK hP (ci := 11) (q0 := 1) rfl rfl, fun U hU hW => ⟨rfl, by rw [hU], by rw [hU]; exact hPc, kE_warm hW hE, hDc.weaken (fun _ _ _ _ => trivial)⟩⟩ rfl rfl hl.1 rfl (lv_room (Nat.le_of_ble_eq_true rfl)) dX11_readLink_105 ⟨Nat.le_of_ble_eq_true rfl, Nat.le_of_ble_eq_true rfl⟩) hS (fun q _ h => hFc q h) hFc (fun u t H1 locs ht hvm w48 hB hz1 hk1 hS => ?_)
              obtain ⟨y49, hq50, hq51, hq52, hq53, hq54, hP1, hD1⟩ := hB
              rw [ht] at hP1
              try dsimp only at w48
              obtain ⟨hP, hD⟩ := va_join (wr := [(ra 2, .inl (kI, 8, .inl q_told)), (ra 8, .inl (kI, 40, .inl q_from)), (ra 9, .inl (kI, 40, .inl q_to))]) (w1 := [(m0, .inr (11, oX11 ra y49)), (ra 13, .inl (kI, 700, .inl q_tape))]) hP hD [1, 0] [2, 3, 4] rfl rfl (by decide) (by decide) hk1 hFc hP1 hD1
              generalize H1 = H at hP hS ⊢
              have hP : va_P (dC, dI) vwCl [(ra 2, .inl (kI, 8, .inl q_told)), (ra 8, .inl (kI, 40, .inl q_from)), (ra 9, .inl (kI, 40, .inl q_to)), (m0, .inr (11, oX11 ra y49)), (ra 13, .inl (kI, 700, .inl q_tape))] H := hP
              have hD : va_D A [(ra 2, .inl (kI, 8, .inl q_told)), (ra 8, .inl (kI, 40, .inl q_from)), (ra 9, .inl (kI, 40, .inl q_to)), (m0, .inr (11, oX11 ra y49)), (ra 13, .inl (kI, 700, .inl q_tape))] := hD
              refine W.widen (k := 0) (n := 0) (Nat.le_of_ble_eq_true rfl) (Nat.le_of_ble_eq_true rfl) ?_
              refine lv_aload_n hx hb dX11_readLink_108 rfl (lv_at hl 2 rfl) ?_
              refine va_get (D := (dC, dI)) (ci := 11) (v := .ref (ra 8)) (C := RX11) (T := TX11) (N := 61) hx hb hts hin11 hown hK hP 3 rfl rfl 9 (by decide) hw_2 (fun _ h9 => h9) rfl dX11_readLink_109 ?_
              refine lv_bipush (v := 20) hx hb dX11_readLink_112 (by decide) ?_
              refine lv_aload_n hx hb dX11_readLink_114 rfl (lv_at hl 2 rfl) ?_
              refine va_get (D := (dC, dI)) (ci := 11) (v := .ref (ra 2)) (C := RX11) (T := TX11) (N := 61) hx hb hts hin11 hown hK hP 3 rfl rfl 3 (by decide) hw_0 (fun _ h9 => h9) rfl dX11_readLink_115 ?_
              refine lv_iconst (v := 5) hx hb dX11_readLink_118 (by decide) ?_
              refine va_iald hx hb hK hP 0 1 rfl rfl (vp_in_nI (n := 5) (by decide) (by decide)) dX11_readLink_119 ?_
              refine W.eq (g2 := F0 m 120 ls [.int (q_told 5), .int 20, .ref (ra 8)]) rfl ?_
              refine lv_iadd hx hb dX11_readLink_120 ?_
              have b55 : iv 20 39 (20 + (q_told 5)) := iv_add (iv_k (by decide) (by decide) : iv 20 20 20) b2 (by decide) (by decide) (by decide) (by decide)
              refine lv_iload_n hx hb dX11_readLink_121 rfl (lv_at hl 1 rfl) ?_
              refine va_iast hx hb hK hP hD hS 1 1 rfl rfl (iv_in b55 (by decide) (by decide)) dX11_readLink_122 (fun H locs hP hD hS => ?_)
              have hP : va_P (dC, dI) vwCl [(ra 2, .inl (kI, 8, .inl q_told)), (ra 8, .inl (kI, 40, .inl (upd q_from (20 + (q_told 5)).toNatClampNeg r13))), (ra 9, .inl (kI, 40, .inl q_to)), (m0, .inr (11, oX11 ra y49)), (ra 13, .inl (kI, 700, .inl q_tape))] H := hP
              have hD : va_D A [(ra 2, .inl (kI, 8, .inl q_told)), (ra 8, .inl (kI, 40, .inl (upd q_from (20 + (q_told 5)).toNatClampNeg r13))), (ra 9, .inl (kI, 40, .inl q_to)), (m0, .inr (11, oX11 ra y49)), (ra 13, .inl (kI, 700, .inl q_tape))] := hD
              refine lv_aload_n hx hb dX11_readLink_123 rfl (lv_at hl 2 rfl) ?_
              refine va_get (D := (dC, dI)) (ci := 11) (v := .ref (ra 9)) (C := RX11) (T := TX11) (N := 61) hx hb hts hin11 hown hK hP 3 rfl rfl 10 (by decide) hw_3 (fun _ h9 => h9) rfl dX11_readLink_124 ?_
              refine lv_bipush (v := 20) hx hb dX11_readLink_127 (by decide) ?_
              refine lv_aload_n hx hb dX11_readLink_129 rfl (lv_at hl 2 rfl) ?_
              refine va_get (D := (dC, dI)) (ci := 11) (v := .ref (ra 2)) (C := RX11) (T := TX11) (N := 61) hx hb hts hin11 hown hK hP 3 rfl rfl 3 (by decide) hw_0 (fun _ h9 => h9) rfl dX11_readLink_130 ?_
              refine lv_iconst (v := 5) hx hb dX11_readLink_133 (by decide) ?_
              refine va_iald hx hb hK hP 0 1 rfl rfl (vp_in_nI (n := 5) (by decide) (by decide)) dX11_readLink_134 ?_
              refine W.eq (g2 := F0 m 135 ls [.int (q_told 5), .int 20, .ref (ra 9)]) rfl ?_
              refine lv_iadd hx hb dX11_readLink_135 ?_
              have b56 : iv 20 39 (20 + (q_told 5)) := iv_add (iv_k (by decide) (by decide) : iv 20 20 20) b2 (by decide) (by decide) (by decide) (by decide)
              refine lv_iload_n hx hb dX11_readLink_136 rfl (lv_at hl 0 rfl) ?_
              refine va_iast hx hb hK hP hD hS 2 1 rfl rfl (iv_in b56 (by decide) (by decide)) dX11_readLink_137 (fun H locs hP hD hS => ?_)
              have hP : va_P (dC, dI) vwCl [(ra 2, .inl (kI, 8, .inl q_told)), (ra 8, .inl (kI, 40, .inl (upd q_from (20 + (q_told 5)).toNatClampNeg r13))), (ra 9, .inl (kI, 40, .inl (upd q_to (20 + (q_told 5)).toNatClampNeg r22))), (m0, .inr (11, oX11 ra y49)), (ra 13, .inl (kI, 700, .inl q_tape))] H := hP
              have hD : va_D A [(ra 2, .inl (kI, 8, .inl q_told)), (ra 8, .inl (kI, 40, .inl (upd q_from (20 + (q_told 5)).toNatClampNeg r13))), (ra 9, .inl (kI, 40, .inl (upd q_to (20 + (q_told 5)).toNatClampNeg r22))), (m0, .inr (11, oX11 ra y49)), (ra 13, .inl (kI, 700, .inl q_tape))] := hD
              refine lv_aload_n hx hb dX11_readLink_138 rfl (lv_at hl 2 rfl) ?_
              refine va_get (D := (dC, dI)) (ci := 11) (v := .ref (ra 2)) (C := RX11) (T := TX11) (N := 61) hx hb hts hin11 hown hK hP 3 rfl rfl 3 (by decide) hw_0 (fun _ h9 => h9) rfl dX11_readLink_139 ?_
              refine lv_iconst (v := 5) hx hb dX11_readLink_142 (by decide) ?_
              refine lv_dup2_11 hx hb dX11_readLink_143 rfl rfl ?_
              refine va_iald hx hb hK hP 0 1 rfl rfl (vp_in_nI (n := 5) (by decide) (by decide)) dX11_readLink_144 ?_
              refine W.eq (g2 := F0 m 145 ls [.int (q_told 5), .int 5, .ref (ra 2)]) rfl ?_
              refine lv_iconst (v := 1) hx hb dX11_readLink_145 (by decide) ?_
              refine lv_iadd hx hb dX11_readLink_146 ?_
              have b57 : iv 1 20 ((q_told 5) + 1) := iv_add b2 (iv_k (by decide) (by decide) : iv 1 1 1) (by decide) (by decide) (by decide) (by decide)
              refine va_iast hx hb hK hP hD hS 0 1 rfl rfl (vp_in_nI (n := 5) (by decide) (by decide)) dX11_readLink_147 (fun H locs hP hD hS => ?_)
              have hP : va_P (dC, dI) vwCl [(ra 2, .inl (kI, 8, .inl (upd q_told 5 ((q_told 5) + 1)))), (ra 8, .inl (kI, 40, .inl (upd q_from (20 + (q_told 5)).toNatClampNeg r13))), (ra 9, .inl (kI, 40, .inl (upd q_to (20 + (q_told 5)).toNatClampNeg r22))), (m0, .inr (11, oX11 ra y49)), (ra 13, .inl (kI, 700, .inl q_tape))] H := hP
              have hD : va_D A [(ra 2, .inl (kI, 8, .inl (upd q_told 5 ((q_told 5) + 1)))), (ra 8, .inl (kI, 40, .inl (upd q_from (20 + (q_told 5)).toNatClampNeg r13))), (ra 9, .inl (kI, 40, .inl (upd q_to (20 + (q_told 5)).toNatClampNeg r22))), (m0, .inr (11, oX11 ra y49)), (ra 13, .inl (kI, 700, .inl q_tape))] := hD
              have hP9 := hP.sub (ws' := [(m0, .inr (11, oX11 ra y49)), (ra 2, .inl (kI, 8, .inl (upd q_told 5 ((q_told 5) + 1)))), (ra 8, .inl (kI, 40, .inl (upd q_from (20 + (q_told 5)).toNatClampNeg r13))), (ra 9, .inl (kI, 40, .inl (upd q_to (20 + (q_told 5)).toNatClampNeg r22))), (ra 13, .inl (kI, 700, .inl q_tape))]) [3, 0, 1, 2, 4] rfl
              have hD9 := hD.sub (ws' := [(m0, .inr (11, oX11 ra y49)), (ra 2, .inl (kI, 8, .inl (upd q_told 5 ((q_told 5) + 1)))), (ra 8, .inl (kI, 40, .inl (upd q_from (20 + (q_told 5)).toNatClampNeg r13))), (ra 9, .inl (kI, 40, .inl (upd q_to (20 + (q_told 5)).toNatClampNeg r22))), (ra 13, .inl (kI, 700, .inl q_tape))]) [3, 0, 1, 2, 4] (by decide) rfl
              exact W.vret hx hb hr (fun t ht hW => ⟨⟨(), rfl, trivial, y49, upd q_told 5 ((q_told 5) + 1), upd q_from (20 + (q_told 5)).toNatClampNeg r13, upd q_to (20 + (q_told 5)).toNatClampNeg r22, hq50, (fI_u hq_told (k := 5) ((iv_w b57 (by decide) (by decide)))), (fI_u hq_from (k := (20 + (q_told 5)).toNatClampNeg) ((iv_w b41 (by decide) (by decide)))), (fI_u hq_to (k := (20 + (q_told 5)).toNatClampNeg) ((iv_w b42 (by decide) (by decide)))), (show (x0 2).toInt ≤ (y49 2).toInt from by omega), (show y49 3 = x0 3 from hq52.trans (hq27.trans (hq18.trans (hq10)))), lk_lt hLT (hq_told 1) (hq_told 5), lk_ld hLD b2 (Int32.not_le.mp c32), (show y49 1 = x0 1 from hq54.trans (hq28.trans (hq19.trans (hq12)))), by rw [ht]; exact hP9, hD9⟩, hS.F ht⟩) hS.2.2 dX11_readLink_148
            · have b58 : iv 1 1 r43 := iv_neLo c45 w44 (iv_k (by decide) (by decide) : iv 0 0 0) (by decide) (by decide)
              refine lv_aload_n hx hb dX11_readLink_91 rfl (lv_at hl 2 rfl) ?_
              refine lv_iconst (v := 5) hx hb dX11_readLink_92 (by decide) ?_
              have hPc := hP.sub (ws' := [(m0, .inr (11, oX11 ra y24))]) [1] rfl
              have hDc := hD.sub (ws' := [(m0, .inr (11, oX11 ra y24))]) [1] (by decide) rfl
              have hFc := va_free (wc := [(m0, .inr (11, oX11 ra y24))]) hD hS hA [1] rfl
              refine va_callv (va_runV (As := [.int 5]) (rest := []) ⟨hx, hb, hml, hown, hts⟩ (s11_wrong l dC dI kB kI kJ kZ kC kS H.size m0 ra y24 5 (hq25) ((iv_w (iv_k (by decide) (by decide) : iv 5 5 5) (by decide) (by decide)))) (cwV 1 hts gX11_readLink_X11_wrong rfl rfl rfl (by decide +kernel) ⟨Nat.le_of_ble_eq_true rfl, Nat.le_of_ble_eq_true rfl⟩) ⟨fun a U g mk q => by obtain ⟨q0, q1, qP, qE, qD⟩ := q; exact ⟨q0, q1, qP, kE_call qE, qD⟩, va_recv hK hP (ci := 11) (q0 := 1) rfl rfl, fun U hU hW => ⟨rfl, by rw [hU], by rw [hU]; exact hPc, kE_warm hW hE, hDc.weaken (fun _ _ _ _ => trivial)⟩⟩ rfl rfl hl.1 rfl (lv_room (Nat.le_of_ble_eq_true rfl)) dX11_readLink_93 ⟨Nat.le_of_ble_eq_true rfl, Nat.le_of_ble_eq_true rfl⟩) hS (fun q _ h => hFc q h) hFc (fun u t H1 locs ht hvm w60 hB hz1 hk1 hS => ?_)
              obtain ⟨y61, hq62, hq63, hq64, hq65, hq66, hP1, hD1⟩ := hB
              rw [ht] at hP1
              try dsimp only at w60
              obtain ⟨hP, hD⟩ := va_join (wr := [(ra 13, .inl (kI, 700, .inl q_tape)), (ra 2, .inl (kI, 8, .inl q_told)), (ra 8, .inl (kI, 40, .inl q_from)), (ra 9, .inl (kI, 40, .inl q_to))]) (w1 := [(m0, .inr (11, oX11 ra y61))]) hP hD [1] [0, 2, 3, 4] rfl rfl (by decide) (by decide) hk1 hFc hP1 hD1
              generalize H1 = H at hP hS ⊢
              have hP : va_P (dC, dI) vwCl [(ra 13, .inl (kI, 700, .inl q_tape)), (ra 2, .inl (kI, 8, .inl q_told)), (ra 8, .inl (kI, 40, .inl q_from)), (ra 9, .inl (kI, 40, .inl q_to)), (m0, .inr (11, oX11 ra y61))] H := hP
              have hD : va_D A [(ra 13, .inl (kI, 700, .inl q_tape)), (ra 2, .inl (kI, 8, .inl q_told)), (ra 8, .inl (kI, 40, .inl q_from)), (ra 9, .inl (kI, 40, .inl q_to)), (m0, .inr (11, oX11 ra y61))] := hD
              refine W.widen (k := 0) (n := 0) (Nat.le_of_ble_eq_true rfl) (Nat.le_of_ble_eq_true rfl) ?_
              refine lv_aload_n hx hb dX11_readLink_96 rfl (lv_at hl 2 rfl) ?_
              refine va_get (D := (dC, dI)) (ci := 11) (v := .int (y61 8)) (C := RX11) (T := TX11) (N := 61) hx hb hts hin11 hown hK hP 4 rfl rfl 22 (by decide) hw_1 (fun _ h9 => h9) rfl dX11_readLink_97 ?_
              refine lv_if_eq (tgt := 104) hx hb dX11_readLink_100 (by decide) (fun c9 => absurd c9 (iv_ne hq63 (iv_k (by decide) (by decide) : iv 0 0 0) (by decide))) (fun _ => ?_)
              have hP9 := hP.sub (ws' := [(m0, .inr (11, oX11 ra y61)), (ra 2, .inl (kI, 8, .inl q_told)), (ra 8, .inl (kI, 40, .inl q_from)), (ra 9, .inl (kI, 40, .inl q_to)), (ra 13, .inl (kI, 700, .inl q_tape))]) [4, 1, 2, 3, 0] rfl
              have hD9 := hD.sub (ws' := [(m0, .inr (11, oX11 ra y61)), (ra 2, .inl (kI, 8, .inl q_told)), (ra 8, .inl (kI, 40, .inl q_from)), (ra 9, .inl (kI, 40, .inl q_to)), (ra 13, .inl (kI, 700, .inl q_tape))]) [4, 1, 2, 3, 0] (by decide) rfl
              exact W.vret hx hb hr (fun t ht hW => ⟨⟨(), rfl, trivial, y61, q_told, q_from, q_to, hq62, hq_told, hq_from, hq_to, (show (x0 2).toInt ≤ (y61 2).toInt from by omega), (show y61 3 = x0 3 from hq65.trans (hq27.trans (hq18.trans (hq10)))), (show ∀ j : Nat, (j : Int) < (q_told 1).toInt → (q_from j).toInt < (q_to j).toInt from hLT), (show ∀ j : Nat, (j : Int) < (q_told 5).toInt → (q_from (20 + j)).toInt < (q_to (20 + j)).toInt from hLD), (show y61 1 = x0 1 from hq66.trans (hq28.trans (hq19.trans (hq12)))), by rw [ht]; exact hP9, hD9⟩, hS.F ht⟩) hS.2.2 dX11_readLink_103
      · have b67 : iv 0 0 (y15 8) := iv_eqL c20 (iv_k (by decide) (by decide) : iv 0 0 0)
        refine lv_aload_n hx hb dX11_readLink_40 rfl (lv_at hl 1 rfl) ?_
        refine lv_iload_n hx hb dX11_readLink_41 rfl (lv_at hl 0 rfl) ?_
        have hPc := hP.sub (ws' := [(m0, .inr (11, oX11 ra y15)), (ra 2, .inl (kI, 8, .inl q_told)), (ra 8, .inl (kI, 40, .inl q_from))]) [3, 4, 0] rfl
        have hDc := hD.sub (ws' := [(m0, .inr (11, oX11 ra y15)), (ra 2, .inl (kI, 8, .inl q_told)), (ra 8, .inl (kI, 40, .inl q_from))]) [3, 4, 0] (by decide) rfl
        have hFc := va_free (wc := [(m0, .inr (11, oX11 ra y15)), (ra 2, .inl (kI, 8, .inl q_told)), (ra 8, .inl (kI, 40, .inl q_from))]) hD hS hA [3, 4, 0] rfl
        refine va_calli (va_runV (As := [.int r13]) (rest := []) ⟨hx, hb, hml, hown, hts⟩ (s11_linksFrom l dC dI kB kI kJ kZ kC kS H.size m0 ra y15 q_told q_from r13 (hq16) (hq_told) (hq_from)) (cwV 1 hts gX11_readLink_X11_linksFrom rfl rfl rfl (by decide +kernel) ⟨Nat.le_of_ble_eq_true rfl, Nat.le_of_ble_eq_true rfl⟩) ⟨fun a U g mk q => by obtain ⟨q0, q1, qP, qE, qD⟩ := q; exact ⟨q0, q1, qP, kE_call qE, qD⟩, va_recv hK hP (ci := 11) (q0 := 3) rfl rfl, fun U hU hW => ⟨rfl, by rw [hU], by rw [hU]; exact hPc, kE_warm hW hE, hDc.weaken (fun _ _ _ _ => trivial)⟩⟩ rfl rfl hl.1 rfl (lv_room (Nat.le_of_ble_eq_true rfl)) dX11_readLink_42 ⟨Nat.le_of_ble_eq_true rfl, Nat.le_of_ble_eq_true rfl⟩) hS (fun q _ h => hFc q h) hFc (fun r68 u t H1 locs ht hvm w69 hB hz1 hk1 hS => ?_)
        obtain ⟨hP1, hD1⟩ := hB
        rw [ht] at hP1
        try dsimp only at w69
        obtain ⟨hP, hD⟩ := va_join (wr := [(ra 9, .inl (kI, 40, .inl q_to)), (ra 13, .inl (kI, 700, .inl q_tape))]) (w1 := [(m0, .inr (11, oX11 ra y15)), (ra 2, .inl (kI, 8, .inl q_told)), (ra 8, .inl (kI, 40, .inl q_from))]) hP hD [3, 4, 0] [1, 2] rfl rfl (by decide) (by decide) hk1 hFc hP1 hD1
        generalize H1 = H at hP hS ⊢
        have hP : va_P (dC, dI) vwCl [(ra 9, .inl (kI, 40, .inl q_to)), (ra 13, .inl (kI, 700, .inl q_tape)), (m0, .inr (11, oX11 ra y15)), (ra 2, .inl (kI, 8, .inl q_told)), (ra 8, .inl (kI, 40, .inl q_from))] H := hP
        have hD : va_D A [(ra 9, .inl (kI, 40, .inl q_to)), (ra 13, .inl (kI, 700, .inl q_tape)), (m0, .inr (11, oX11 ra y15)), (ra 2, .inl (kI, 8, .inl q_told)), (ra 8, .inl (kI, 40, .inl q_from))] := hD
        refine W.widen (k := 0) (n := 0) (Nat.le_of_ble_eq_true rfl) (Nat.le_of_ble_eq_true rfl) ?_
        refine lv_iconst (v := 4) hx hb dX11_readLink_45 (by decide) ?_
        refine lv_icmp_ne (tgt := 54) hx hb dX11_readLink_46 (by decide) (fun c70 => ?_) (fun c70 => ?_)
        · refine lv_aload_n hx hb dX11_readLink_54 rfl (lv_at hl 1 rfl) ?_
          refine va_get (D := (dC, dI)) (ci := 11) (v := .int (y15 8)) (C := RX11) (T := TX11) (N := 61) hx hb hts hin11 hown hK hP 2 rfl rfl 22 (by decide) hw_1 (fun _ h9 => h9) rfl dX11_readLink_55 ?_
          refine lv_if_ne (tgt := 65) hx hb dX11_readLink_58 (by decide) (fun c9 => absurd (c20) c9) (fun _ => ?_)
          refine lv_aload_n hx hb dX11_readLink_61 rfl (lv_at hl 1 rfl) ?_
          have hPc := hP.sub (ws' := [(m0, .inr (11, oX11 ra y15)), (ra 13, .inl (kI, 700, .inl q_tape))]) [2, 1] rfl
          have hDc := hD.sub (ws' := [(m0, .inr (11, oX11 ra y15)), (ra 13, .inl (kI, 700, .inl q_tape))]) [2, 1] (by decide) rfl
          have hFc := va_free (wc := [(m0, .inr (11, oX11 ra y15)), (ra 13, .inl (kI, 700, .inl q_tape))]) hD hS hA [2, 1] rfl
          refine va_callv (va_runV (As := []) (rest := []) ⟨hx, hb, hml, hown, hts⟩ (s11_stepOn l dC dI kB kI kJ kZ kC kS H.size m0 ra y15 q_tape (hq16) (hq_tape)) (cwV 0 hts gX11_readLink_X11_stepOn rfl rfl rfl (by decide +kernel) ⟨Nat.le_of_ble_eq_true rfl, Nat.le_of_ble_eq_true rfl⟩) ⟨fun a U g mk q => by obtain ⟨q0, q1, qP, qE, qD⟩ := q; exact ⟨q0, q1, qP, kE_call qE, qD⟩, va_recv hK hP (ci := 11) (q0 := 2) rfl rfl, fun U hU hW => ⟨rfl, by rw [hU], by rw [hU]; exact hPc, kE_warm hW hE, hDc.weaken (fun _ _ _ _ => trivial)⟩⟩ rfl rfl hl.1 rfl (lv_room (Nat.le_of_ble_eq_true rfl)) dX11_readLink_62 ⟨Nat.le_of_ble_eq_true rfl, Nat.le_of_ble_eq_true rfl⟩) hS (fun q _ h => hFc q h) hFc (fun u t H1 locs ht hvm w72 hB hz1 hk1 hS => ?_)
          obtain ⟨y73, hq74, hq75, hq76, hq77, hq78, hP1, hD1⟩ := hB
          rw [ht] at hP1
          try dsimp only at w72
          obtain ⟨hP, hD⟩ := va_join (wr := [(ra 9, .inl (kI, 40, .inl q_to)), (ra 2, .inl (kI, 8, .inl q_told)), (ra 8, .inl (kI, 40, .inl q_from))]) (w1 := [(m0, .inr (11, oX11 ra y73)), (ra 13, .inl (kI, 700, .inl q_tape))]) hP hD [2, 1] [0, 3, 4] rfl rfl (by decide) (by decide) hk1 hFc hP1 hD1
          generalize H1 = H at hP hS ⊢
          have hP : va_P (dC, dI) vwCl [(ra 9, .inl (kI, 40, .inl q_to)), (ra 2, .inl (kI, 8, .inl q_told)), (ra 8, .inl (kI, 40, .inl q_from)), (m0, .inr (11, oX11 ra y73)), (ra 13, .inl (kI, 700, .inl q_tape))] H := hP
          have hD : va_D A [(ra 9, .inl (kI, 40, .inl q_to)), (ra 2, .inl (kI, 8, .inl q_told)), (ra 8, .inl (kI, 40, .inl q_from)), (m0, .inr (11, oX11 ra y73)), (ra 13, .inl (kI, 700, .inl q_tape))] := hD
          refine W.widen (k := 0) (n := 0) (Nat.le_of_ble_eq_true rfl) (Nat.le_of_ble_eq_true rfl) ?_
          refine lv_aload_n hx hb dX11_readLink_65 rfl (lv_at hl 1 rfl) ?_
          have hPc := hP.sub (ws' := [(m0, .inr (11, oX11 ra y73)), (ra 2, .inl (kI, 8, .inl q_told))]) [3, 1] rfl
          have hDc := hD.sub (ws' := [(m0, .inr (11, oX11 ra y73)), (ra 2, .inl (kI, 8, .inl q_told))]) [3, 1] (by decide) rfl
          have hFc := va_free (wc := [(m0, .inr (11, oX11 ra y73)), (ra 2, .inl (kI, 8, .inl q_told))]) hD hS hA [3, 1] rfl
          refine va_calli (va_runV (As := []) (rest := []) ⟨hx, hb, hml, hown, hts⟩ (s11_routerNow l dC dI kB kI kJ kZ kC kS H.size m0 ra y73 q_told (hq74) (hq_told)) (cwV 0 hts gX11_readLink_X11_routerNow rfl rfl rfl (by decide +kernel) ⟨Nat.le_of_ble_eq_true rfl, Nat.le_of_ble_eq_true rfl⟩) ⟨fun a U g mk q => by obtain ⟨q0, q1, qP, qE, qD⟩ := q; exact ⟨q0, q1, qP, kE_call qE, qD⟩, va_recv hK hP (ci := 11) (q0 := 3) rfl rfl, fun U hU hW => ⟨rfl, by rw [hU], by rw [hU]; exact hPc, kE_warm hW hE, hDc.weaken (fun _ _ _ _ => trivial)⟩⟩ rfl rfl hl.1 rfl (lv_room (Nat.le_of_ble_eq_true rfl)) dX11_readLink_66 ⟨Nat.le_of_ble_eq_true rfl, Nat.le_of_ble_eq_true rfl⟩) hS (fun q _ h => hFc q h) hFc (fun r79 u t H1 locs ht hvm w80 hB hz1 hk1 hS => ?_)
          obtain ⟨y81, hq82, hq83, hq84, hq85, hP1, hD1⟩ := hB
          rw [ht] at hP1
          try dsimp only at w80
          obtain ⟨hP, hD⟩ := va_join (wr := [(ra 9, .inl (kI, 40, .inl q_to)), (ra 8, .inl (kI, 40, .inl q_from)), (ra 13, .inl (kI, 700, .inl q_tape))]) (w1 := [(m0, .inr (11, oX11 ra y81)), (ra 2, .inl (kI, 8, .inl q_told))]) hP hD [3, 1] [0, 2, 4] rfl rfl (by decide) (by decide) hk1 hFc hP1 hD1
          generalize H1 = H at hP hS ⊢
          have hP : va_P (dC, dI) vwCl [(ra 9, .inl (kI, 40, .inl q_to)), (ra 8, .inl (kI, 40, .inl q_from)), (ra 13, .inl (kI, 700, .inl q_tape)), (m0, .inr (11, oX11 ra y81)), (ra 2, .inl (kI, 8, .inl q_told))] H := hP
          have hD : va_D A [(ra 9, .inl (kI, 40, .inl q_to)), (ra 8, .inl (kI, 40, .inl q_from)), (ra 13, .inl (kI, 700, .inl q_tape)), (m0, .inr (11, oX11 ra y81)), (ra 2, .inl (kI, 8, .inl q_told))] := hD
          refine W.widen (k := 0) (n := 0) (Nat.le_of_ble_eq_true rfl) (Nat.le_of_ble_eq_true rfl) ?_
          refine lv_istore_n (lv' := [(2, .int r79), (1, .int r13), (0, .ref m0)]) hx hb dX11_readLink_69 rfl hl (by decide) rfl (fun ls hl => ?_)
          refine lv_aload_n hx hb dX11_readLink_70 rfl (lv_at hl 2 rfl) ?_
          refine va_get (D := (dC, dI)) (ci := 11) (v := .int (y81 8)) (C := RX11) (T := TX11) (N := 61) hx hb hts hin11 hown hK hP 3 rfl rfl 22 (by decide) hw_1 (fun _ h9 => h9) rfl dX11_readLink_71 ?_
          refine lv_if_ne (tgt := 96) hx hb dX11_readLink_74 (by decide) (fun c86 => ?_) (fun c86 => ?_)
          · have b87 : iv 1 5 (y81 8) := iv_neLo c86 (hq82 8 : iv 0 5 (y81 8)) (iv_k (by decide) (by decide) : iv 0 0 0) (by decide) (by decide)
            refine lv_aload_n hx hb dX11_readLink_96 rfl (lv_at hl 2 rfl) ?_
            refine va_get (D := (dC, dI)) (ci := 11) (v := .int (y81 8)) (C := RX11) (T := TX11) (N := 61) hx hb hts hin11 hown hK hP 3 rfl rfl 22 (by decide) hw_1 (fun _ h9 => h9) rfl dX11_readLink_97 ?_
            refine lv_if_eq (tgt := 104) hx hb dX11_readLink_100 (by decide) (fun c9 => absurd c9 (c86)) (fun _ => ?_)
            have hP9 := hP.sub (ws' := [(m0, .inr (11, oX11 ra y81)), (ra 2, .inl (kI, 8, .inl q_told)), (ra 8, .inl (kI, 40, .inl q_from)), (ra 9, .inl (kI, 40, .inl q_to)), (ra 13, .inl (kI, 700, .inl q_tape))]) [3, 4, 1, 0, 2] rfl
            have hD9 := hD.sub (ws' := [(m0, .inr (11, oX11 ra y81)), (ra 2, .inl (kI, 8, .inl q_told)), (ra 8, .inl (kI, 40, .inl q_from)), (ra 9, .inl (kI, 40, .inl q_to)), (ra 13, .inl (kI, 700, .inl q_tape))]) [3, 4, 1, 0, 2] (by decide) rfl
            exact W.vret hx hb hr (fun t ht hW => ⟨⟨(), rfl, trivial, y81, q_told, q_from, q_to, hq82, hq_told, hq_from, hq_to, (show (x0 2).toInt ≤ (y81 2).toInt from by omega), (show y81 3 = x0 3 from hq84.trans (hq76.trans (hq18.trans (hq10)))), (show ∀ j : Nat, (j : Int) < (q_told 1).toInt → (q_from j).toInt < (q_to j).toInt from hLT), (show ∀ j : Nat, (j : Int) < (q_told 5).toInt → (q_from (20 + j)).toInt < (q_to (20 + j)).toInt from hLD), (show y81 1 = x0 1 from hq85.trans (hq78.trans (hq19.trans (hq12)))), by rw [ht]; exact hP9, hD9⟩, hS.F ht⟩) hS.2.2 dX11_readLink_103
          · have b88 : iv 0 0 (y81 8) := iv_eqL c86 (iv_k (by decide) (by decide) : iv 0 0 0)
            refine lv_iload_n hx hb dX11_readLink_77 rfl (lv_at hl 0 rfl) ?_
            refine lv_iload_n hx hb dX11_readLink_78 rfl (lv_at hl 1 rfl) ?_
            refine lv_icmp_le (tgt := 91) hx hb dX11_readLink_79 (by decide) (fun c89 => ?_) (fun c89 => ?_)
            · refine lv_aload_n hx hb dX11_readLink_91 rfl (lv_at hl 2 rfl) ?_
              refine lv_iconst (v := 5) hx hb dX11_readLink_92 (by decide) ?_
              have hPc := hP.sub (ws' := [(m0, .inr (11, oX11 ra y81))]) [3] rfl
              have hDc := hD.sub (ws' := [(m0, .inr (11, oX11 ra y81))]) [3] (by decide) rfl
              have hFc := va_free (wc := [(m0, .inr (11, oX11 ra y81))]) hD hS hA [3] rfl
              refine va_callv (va_runV (As := [.int 5]) (rest := []) ⟨hx, hb, hml, hown, hts⟩ (s11_wrong l dC dI kB kI kJ kZ kC kS H.size m0 ra y81 5 (hq82) ((iv_w (iv_k (by decide) (by decide) : iv 5 5 5) (by decide) (by decide)))) (cwV 1 hts gX11_readLink_X11_wrong rfl rfl rfl (by decide +kernel) ⟨Nat.le_of_ble_eq_true rfl, Nat.le_of_ble_eq_true rfl⟩) ⟨fun a U g mk q => by obtain ⟨q0, q1, qP, qE, qD⟩ := q; exact ⟨q0, q1, qP, kE_call qE, qD⟩, va_recv hK hP (ci := 11) (q0 := 3) rfl rfl, fun U hU hW => ⟨rfl, by rw [hU], by rw [hU]; exact hPc, kE_warm hW hE, hDc.weaken (fun _ _ _ _ => trivial)⟩⟩ rfl rfl hl.1 rfl (lv_room (Nat.le_of_ble_eq_true rfl)) dX11_readLink_93 ⟨Nat.le_of_ble_eq_true rfl, Nat.le_of_ble_eq_true rfl⟩) hS (fun q _ h => hFc q h) hFc (fun u t H1 locs ht hvm w91 hB hz1 hk1 hS => ?_)
              obtain ⟨y92, hq93, hq94, hq95, hq96, hq97, hP1, hD1⟩ := hB
              rw [ht] at hP1
              try dsimp only at w91
              obtain ⟨hP, hD⟩ := va_join (wr := [(ra 9, .inl (kI, 40, .inl q_to)), (ra 8, .inl (kI, 40, .inl q_from)), (ra 13, .inl (kI, 700, .inl q_tape)), (ra 2, .inl (kI, 8, .inl q_told))]) (w1 := [(m0, .inr (11, oX11 ra y92))]) hP hD [3] [0, 1, 2, 4] rfl rfl (by decide) (by decide) hk1 hFc hP1 hD1
              generalize H1 = H at hP hS ⊢
              have hP : va_P (dC, dI) vwCl [(ra 9, .inl (kI, 40, .inl q_to)), (ra 8, .inl (kI, 40, .inl q_from)), (ra 13, .inl (kI, 700, .inl q_tape)), (ra 2, .inl (kI, 8, .inl q_told)), (m0, .inr (11, oX11 ra y92))] H := hP
              have hD : va_D A [(ra 9, .inl (kI, 40, .inl q_to)), (ra 8, .inl (kI, 40, .inl q_from)), (ra 13, .inl (kI, 700, .inl q_tape)), (ra 2, .inl (kI, 8, .inl q_told)), (m0, .inr (11, oX11 ra y92))] := hD
              refine W.widen (k := 0) (n := 0) (Nat.le_of_ble_eq_true rfl) (Nat.le_of_ble_eq_true rfl) ?_
              refine lv_aload_n hx hb dX11_readLink_96 rfl (lv_at hl 2 rfl) ?_
              refine va_get (D := (dC, dI)) (ci := 11) (v := .int (y92 8)) (C := RX11) (T := TX11) (N := 61) hx hb hts hin11 hown hK hP 4 rfl rfl 22 (by decide) hw_1 (fun _ h9 => h9) rfl dX11_readLink_97 ?_
              refine lv_if_eq (tgt := 104) hx hb dX11_readLink_100 (by decide) (fun c9 => absurd c9 (iv_ne hq94 (iv_k (by decide) (by decide) : iv 0 0 0) (by decide))) (fun _ => ?_)
              have hP9 := hP.sub (ws' := [(m0, .inr (11, oX11 ra y92)), (ra 2, .inl (kI, 8, .inl q_told)), (ra 8, .inl (kI, 40, .inl q_from)), (ra 9, .inl (kI, 40, .inl q_to)), (ra 13, .inl (kI, 700, .inl q_tape))]) [4, 3, 1, 0, 2] rfl
              have hD9 := hD.sub (ws' := [(m0, .inr (11, oX11 ra y92)), (ra 2, .inl (kI, 8, .inl q_told)), (ra 8, .inl (kI, 40, .inl q_from)), (ra 9, .inl (kI, 40, .inl q_to)), (ra 13, .inl (kI, 700, .inl q_tape))]) [4, 3, 1, 0, 2] (by decide) rfl
              exact W.vret hx hb hr (fun t ht hW => ⟨⟨(), rfl, trivial, y92, q_told, q_from, q_to, hq93, hq_told, hq_from, hq_to, (show (x0 2).toInt ≤ (y92 2).toInt from by omega), (show y92 3 = x0 3 from hq96.trans (hq84.trans (hq76.trans (hq18.trans (hq10))))), (show ∀ j : Nat, (j : Int) < (q_told 1).toInt → (q_from j).toInt < (q_to j).toInt from hLT), (show ∀ j : Nat, (j : Int) < (q_told 5).toInt → (q_from (20 + j)).toInt < (q_to (20 + j)).toInt from hLD), (show y92 1 = x0 1 from hq97.trans (hq85.trans (hq78.trans (hq19.trans (hq12))))), by rw [ht]; exact hP9, hD9⟩, hS.F ht⟩) hS.2.2 dX11_readLink_103
            · have b98 : iv 0 10 r13 := iv_ltL (Int32.not_le.mp c89) w14 w80 (by decide) (by decide)
              have b99 : iv 1 11 r79 := iv_ltR (Int32.not_le.mp c89) w14 w80 (by decide) (by decide)
              refine lv_aload_n hx hb dX11_readLink_82 rfl (lv_at hl 2 rfl) ?_
              refine lv_iload_n hx hb dX11_readLink_83 rfl (lv_at hl 1 rfl) ?_
              refine lv_iload_n hx hb dX11_readLink_84 rfl (lv_at hl 0 rfl) ?_
              have hPc := hP.sub (ws' := [(m0, .inr (11, oX11 ra y81)), (ra 2, .inl (kI, 8, .inl q_told)), (ra 8, .inl (kI, 40, .inl q_from)), (ra 9, .inl (kI, 40, .inl q_to))]) [3, 4, 1, 0] rfl
              have hDc := hD.sub (ws' := [(m0, .inr (11, oX11 ra y81)), (ra 2, .inl (kI, 8, .inl q_told)), (ra 8, .inl (kI, 40, .inl q_from)), (ra 9, .inl (kI, 40, .inl q_to))]) [3, 4, 1, 0] (by decide) rfl
              have hFc := va_free (wc := [(m0, .inr (11, oX11 ra y81)), (ra 2, .inl (kI, 8, .inl q_told)), (ra 8, .inl (kI, 40, .inl q_from)), (ra 9, .inl (kI, 40, .inl q_to))]) hD hS hA [3, 4, 1, 0] rfl
              refine va_calli (va_runV (As := [.int r13, .int r79]) (rest := []) ⟨hx, hb, hml, hown, hts⟩ (s11_hasLink l dC dI kB kI kJ kZ kC kS H.size m0 ra y81 q_told q_from q_to r13 r79 (hq82) (hq_told) (hq_from) (hq_to)) (cwV 2 hts gX11_readLink_X11_hasLink rfl rfl rfl (by decide +kernel) ⟨Nat.le_of_ble_eq_true rfl, Nat.le_of_ble_eq_true rfl⟩) ⟨fun a U g mk q => by obtain ⟨q0, q1, qP, qE, qD⟩ := q; exact ⟨q0, q1, qP, kE_call qE, qD⟩, va_recv hK hP (ci := 11) (q0 := 3) rfl rfl, fun U hU hW => ⟨rfl, by rw [hU], by rw [hU]; exact hPc, kE_warm hW hE, hDc.weaken (fun _ _ _ _ => trivial)⟩⟩ rfl rfl hl.1 rfl (lv_room (Nat.le_of_ble_eq_true rfl)) dX11_readLink_85 ⟨Nat.le_of_ble_eq_true rfl, Nat.le_of_ble_eq_true rfl⟩) hS (fun q _ h => hFc q h) hFc (fun r100 u t H1 locs ht hvm w101 hB hz1 hk1 hS => ?_)
              obtain ⟨hP1, hD1⟩ := hB
              rw [ht] at hP1
              try dsimp only at w101
              obtain ⟨hP, hD⟩ := va_join (wr := [(ra 13, .inl (kI, 700, .inl q_tape))]) (w1 := [(m0, .inr (11, oX11 ra y81)), (ra 2, .inl (kI, 8, .inl q_told)), (ra 8, .inl (kI, 40, .inl q_from)), (ra 9, .inl (kI, 40, .inl q_to))]) hP hD [3, 4, 1, 0] [2] rfl rfl (by decide) (by decide) hk1 hFc hP1 hD1
              generalize H1 = H at hP hS ⊢
              have hP : va_P (dC, dI) vwCl [(ra 13, .inl (kI, 700, .inl q_tape)), (m0, .inr (11, oX11 ra y81)), (ra 2, .inl (kI, 8, .inl q_told)), (ra 8, .inl (kI, 40, .inl q_from)), (ra 9, .inl (kI, 40, .inl q_to))] H := hP
              have hD : va_D A [(ra 13, .inl (kI, 700, .inl q_tape)), (m0, .inr (11, oX11 ra y81)), (ra 2, .inl (kI, 8, .inl q_told)), (ra 8, .inl (kI, 40, .inl q_from)), (ra 9, .inl (kI, 40, .inl q_to))] := hD
              refine W.widen (k := 0) (n := 0) (Nat.le_of_ble_eq_true rfl) (Nat.le_of_ble_eq_true rfl) ?_
              refine lv_if_eq (tgt := 96) hx hb dX11_readLink_88 (by decide) (fun c102 => ?_) (fun c102 => ?_)
              · have b103 : iv 0 0 r100 := iv_eqL c102 (iv_k (by decide) (by decide) : iv 0 0 0)
                refine lv_aload_n hx hb dX11_readLink_96 rfl (lv_at hl 2 rfl) ?_
                refine va_get (D := (dC, dI)) (ci := 11) (v := .int (y81 8)) (C := RX11) (T := TX11) (N := 61) hx hb hts hin11 hown hK hP 1 rfl rfl 22 (by decide) hw_1 (fun _ h9 => h9) rfl dX11_readLink_97 ?_
                refine lv_if_eq (tgt := 104) hx hb dX11_readLink_100 (by decide) (fun _ => ?_) (fun c9 => absurd (c86) c9)
                refine lv_aload_n hx hb dX11_readLink_104 rfl (lv_at hl 2 rfl) ?_
                have hPc := hP.sub (ws' := [(m0, .inr (11, oX11 ra y81)), (ra 13, .inl (kI, 700, .inl q_tape))]) [1, 0] rfl
                have hDc := hD.sub (ws' := [(m0, .inr (11, oX11 ra y81)), (ra 13, .inl (kI, 700, .inl q_tape))]) [1, 0] (by decide) rfl
                have hFc := va_free (wc := [(m0, .inr (11, oX11 ra y81)), (ra 13, .inl (kI, 700, .inl q_tape))]) hD hS hA [1, 0] rfl
                refine va_callv (va_runV (As := []) (rest := []) ⟨hx, hb, hml, hown, hts⟩ (s11_stepOn l dC dI kB kI kJ kZ kC kS H.size m0 ra y81 q_tape (hq82) (hq_tape)) (cwV 0 hts gX11_readLink_X11_stepOn rfl rfl rfl (by decide +kernel) ⟨Nat.le_of_ble_eq_true rfl, Nat.le_of_ble_eq_true rfl⟩) ⟨fun a U g mk q => by obtain ⟨q0, q1, qP, qE, qD⟩ := q; exact ⟨q0, q1, qP, kE_call qE, qD⟩, va_recv hK hP (ci := 11) (q0 := 1) rfl rfl, fun U hU hW => ⟨rfl, by rw [hU], by rw [hU]; exact hPc, kE_warm hW hE, hDc.weaken (fun _ _ _ _ => trivial)⟩⟩ rfl rfl hl.1 rfl (lv_room (Nat.le_of_ble_eq_true rfl)) dX11_readLink_105 ⟨Nat.le_of_ble_eq_true rfl, Nat.le_of_ble_eq_true rfl⟩) hS (fun q _ h => hFc q h) hFc (fun u t H1 locs ht hvm w105 hB hz1 hk1 hS => ?_)
                obtain ⟨y106, hq107, hq108, hq109, hq110, hq111, hP1, hD1⟩ := hB
                rw [ht] at hP1
                try dsimp only at w105
                obtain ⟨hP, hD⟩ := va_join (wr := [(ra 2, .inl (kI, 8, .inl q_told)), (ra 8, .inl (kI, 40, .inl q_from)), (ra 9, .inl (kI, 40, .inl q_to))]) (w1 := [(m0, .inr (11, oX11 ra y106)), (ra 13, .inl (kI, 700, .inl q_tape))]) hP hD [1, 0] [2, 3, 4] rfl rfl (by decide) (by decide) hk1 hFc hP1 hD1
                generalize H1 = H at hP hS ⊢
                have hP : va_P (dC, dI) vwCl [(ra 2, .inl (kI, 8, .inl q_told)), (ra 8, .inl (kI, 40, .inl q_from)), (ra 9, .inl (kI, 40, .inl q_to)), (m0, .inr (11, oX11 ra y106)), (ra 13, .inl (kI, 700, .inl q_tape))] H := hP
                have hD : va_D A [(ra 2, .inl (kI, 8, .inl q_told)), (ra 8, .inl (kI, 40, .inl q_from)), (ra 9, .inl (kI, 40, .inl q_to)), (m0, .inr (11, oX11 ra y106)), (ra 13, .inl (kI, 700, .inl q_tape))] := hD
                refine W.widen (k := 0) (n := 0) (Nat.le_of_ble_eq_true rfl) (Nat.le_of_ble_eq_true rfl) ?_
                refine lv_aload_n hx hb dX11_readLink_108 rfl (lv_at hl 2 rfl) ?_
                refine va_get (D := (dC, dI)) (ci := 11) (v := .ref (ra 8)) (C := RX11) (T := TX11) (N := 61) hx hb hts hin11 hown hK hP 3 rfl rfl 9 (by decide) hw_2 (fun _ h9 => h9) rfl dX11_readLink_109 ?_
                refine lv_bipush (v := 20) hx hb dX11_readLink_112 (by decide) ?_
                refine lv_aload_n hx hb dX11_readLink_114 rfl (lv_at hl 2 rfl) ?_
                refine va_get (D := (dC, dI)) (ci := 11) (v := .ref (ra 2)) (C := RX11) (T := TX11) (N := 61) hx hb hts hin11 hown hK hP 3 rfl rfl 3 (by decide) hw_0 (fun _ h9 => h9) rfl dX11_readLink_115 ?_
                refine lv_iconst (v := 5) hx hb dX11_readLink_118 (by decide) ?_
                refine va_iald hx hb hK hP 0 1 rfl rfl (vp_in_nI (n := 5) (by decide) (by decide)) dX11_readLink_119 ?_
                refine W.eq (g2 := F0 m 120 ls [.int (q_told 5), .int 20, .ref (ra 8)]) rfl ?_
                refine lv_iadd hx hb dX11_readLink_120 ?_
                have b112 : iv 20 39 (20 + (q_told 5)) := iv_add (iv_k (by decide) (by decide) : iv 20 20 20) b2 (by decide) (by decide) (by decide) (by decide)
                refine lv_iload_n hx hb dX11_readLink_121 rfl (lv_at hl 1 rfl) ?_
                refine va_iast hx hb hK hP hD hS 1 1 rfl rfl (iv_in b112 (by decide) (by decide)) dX11_readLink_122 (fun H locs hP hD hS => ?_)
                have hP : va_P (dC, dI) vwCl [(ra 2, .inl (kI, 8, .inl q_told)), (ra 8, .inl (kI, 40, .inl (upd q_from (20 + (q_told 5)).toNatClampNeg r13))), (ra 9, .inl (kI, 40, .inl q_to)), (m0, .inr (11, oX11 ra y106)), (ra 13, .inl (kI, 700, .inl q_tape))] H := hP
                have hD : va_D A [(ra 2, .inl (kI, 8, .inl q_told)), (ra 8, .inl (kI, 40, .inl (upd q_from (20 + (q_told 5)).toNatClampNeg r13))), (ra 9, .inl (kI, 40, .inl q_to)), (m0, .inr (11, oX11 ra y106)), (ra 13, .inl (kI, 700, .inl q_tape))] := hD
                refine lv_aload_n hx hb dX11_readLink_123 rfl (lv_at hl 2 rfl) ?_
                refine va_get (D := (dC, dI)) (ci := 11) (v := .ref (ra 9)) (C := RX11) (T := TX11) (N := 61) hx hb hts hin11 hown hK hP 3 rfl rfl 10 (by decide) hw_3 (fun _ h9 => h9) rfl dX11_readLink_124 ?_
                refine lv_bipush (v := 20) hx hb dX11_readLink_127 (by decide) ?_
                refine lv_aload_n hx hb dX11_readLink_129 rfl (lv_at hl 2 rfl) ?_
                refine va_get (D := (dC, dI)) (ci := 11) (v := .ref (ra 2)) (C := RX11) (T := TX11) (N := 61) hx hb hts hin11 hown hK hP 3 rfl rfl 3 (by decide) hw_0 (fun _ h9 => h9) rfl dX11_readLink_130 ?_
                refine lv_iconst (v := 5) hx hb dX11_readLink_133 (by decide) ?_
                refine va_iald hx hb hK hP 0 1 rfl rfl (vp_in_nI (n := 5) (by decide) (by decide)) dX11_readLink_134 ?_
                refine W.eq (g2 := F0 m 135 ls [.int (q_told 5), .int 20, .ref (ra 9)]) rfl ?_
                refine lv_iadd hx hb dX11_readLink_135 ?_
                have b113 : iv 20 39 (20 + (q_told 5)) := iv_add (iv_k (by decide) (by decide) : iv 20 20 20) b2 (by decide) (by decide) (by decide) (by decide)
                refine lv_iload_n hx hb dX11_readLink_136 rfl (lv_at hl 0 rfl) ?_
                refine va_iast hx hb hK hP hD hS 2 1 rfl rfl (iv_in b113 (by decide) (by decide)) dX11_readLink_137 (fun H locs hP hD hS => ?_)
                have hP : va_P (dC, dI) vwCl [(ra 2, .inl (kI, 8, .inl q_told)), (ra 8, .inl (kI, 40, .inl (upd q_from (20 + (q_told 5)).toNatClampNeg r13))), (ra 9, .inl (kI, 40, .inl (upd q_to (20 + (q_told 5)).toNatClampNeg r79))), (m0, .inr (11, oX11 ra y106)), (ra 13, .inl (kI, 700, .inl q_tape))] H := hP
                have hD : va_D A [(ra 2, .inl (kI, 8, .inl q_told)), (ra 8, .inl (kI, 40, .inl (upd q_from (20 + (q_told 5)).toNatClampNeg r13))), (ra 9, .inl (kI, 40, .inl (upd q_to (20 + (q_told 5)).toNatClampNeg r79))), (m0, .inr (11, oX11 ra y106)), (ra 13, .inl (kI, 700, .inl q_tape))] := hD
                refine lv_aload_n hx hb dX11_readLink_138 rfl (lv_at hl 2 rfl) ?_
                refine va_get (D := (dC, dI)) (ci := 11) (v := .ref (ra 2)) (C := RX11) (T := TX11) (N := 61) hx hb hts hin11 hown hK hP 3 rfl rfl 3 (by decide) hw_0 (fun _ h9 => h9) rfl dX11_readLink_139 ?_
                refine lv_iconst (v := 5) hx hb dX11_readLink_142 (by decide) ?_
                refine lv_dup2_11 hx hb dX11_readLink_143 rfl rfl ?_
                refine va_iald hx hb hK hP 0 1 rfl rfl (vp_in_nI (n := 5) (by decide) (by decide)) dX11_readLink_144 ?_
                refine W.eq (g2 := F0 m 145 ls [.int (q_told 5), .int 5, .ref (ra 2)]) rfl ?_
                refine lv_iconst (v := 1) hx hb dX11_readLink_145 (by decide) ?_
                refine lv_iadd hx hb dX11_readLink_146 ?_
                have b114 : iv 1 20 ((q_told 5) + 1) := iv_add b2 (iv_k (by decide) (by decide) : iv 1 1 1) (by decide) (by decide) (by decide) (by decide)
                refine va_iast hx hb hK hP hD hS 0 1 rfl rfl (vp_in_nI (n := 5) (by decide) (by decide)) dX11_readLink_147 (fun H locs hP hD hS => ?_)
                have hP : va_P (dC, dI) vwCl [(ra 2, .inl (kI, 8, .inl (upd q_told 5 ((q_told 5) + 1)))), (ra 8, .inl (kI, 40, .inl (upd q_from (20 + (q_told 5)).toNatClampNeg r13))), (ra 9, .inl (kI, 40, .inl (upd q_to (20 + (q_told 5)).toNatClampNeg r79))), (m0, .inr (11, oX11 ra y106)), (ra 13, .inl (kI, 700, .inl q_tape))] H := hP
                have hD : va_D A [(ra 2, .inl (kI, 8, .inl (upd q_told 5 ((q_told 5) + 1)))), (ra 8, .inl (kI, 40, .inl (upd q_from (20 + (q_told 5)).toNatClampNeg r13))), (ra 9, .inl (kI, 40, .inl (upd q_to (20 + (q_told 5)).toNatClampNeg r79))), (m0, .inr (11, oX11 ra y106)), (ra 13, .inl (kI, 700, .inl q_tape))] := hD
                have hP9 := hP.sub (ws' := [(m0, .inr (11, oX11 ra y106)), (ra 2, .inl (kI, 8, .inl (upd q_told 5 ((q_told 5) + 1)))), (ra 8, .inl (kI, 40, .inl (upd q_from (20 + (q_told 5)).toNatClampNeg r13))), (ra 9, .inl (kI, 40, .inl (upd q_to (20 + (q_told 5)).toNatClampNeg r79))), (ra 13, .inl (kI, 700, .inl q_tape))]) [3, 0, 1, 2, 4] rfl
                have hD9 := hD.sub (ws' := [(m0, .inr (11, oX11 ra y106)), (ra 2, .inl (kI, 8, .inl (upd q_told 5 ((q_told 5) + 1)))), (ra 8, .inl (kI, 40, .inl (upd q_from (20 + (q_told 5)).toNatClampNeg r13))), (ra 9, .inl (kI, 40, .inl (upd q_to (20 + (q_told 5)).toNatClampNeg r79))), (ra 13, .inl (kI, 700, .inl q_tape))]) [3, 0, 1, 2, 4] (by decide) rfl
                exact W.vret hx hb hr (fun t ht hW => ⟨⟨(), rfl, trivial, y106, upd q_told 5 ((q_told 5) + 1), upd q_from (20 + (q_told 5)).toNatClampNeg r13, upd q_to (20 + (q_told 5)).toNatClampNeg r79, hq107, (fI_u hq_told (k := 5) ((iv_w b114 (by decide) (by decide)))), (fI_u hq_from (k := (20 + (q_told 5)).toNatClampNeg) ((iv_w b98 (by decide) (by decide)))), (fI_u hq_to (k := (20 + (q_told 5)).toNatClampNeg) ((iv_w b99 (by decide) (by decide)))), (show (x0 2).toInt ≤ (y106 2).toInt from by omega), (show y106 3 = x0 3 from hq109.trans (hq84.trans (hq76.trans (hq18.trans (hq10))))), lk_lt hLT (hq_told 1) (hq_told 5), lk_ld hLD b2 (Int32.not_le.mp c89), (show y106 1 = x0 1 from hq111.trans (hq85.trans (hq78.trans (hq19.trans (hq12))))), by rw [ht]; exact hP9, hD9⟩, hS.F ht⟩) hS.2.2 dX11_readLink_148
              · have b115 : iv 1 1 r100 := iv_neLo c102 w101 (iv_k (by decide) (by decide) : iv 0 0 0) (by decide) (by decide)
                refine lv_aload_n hx hb dX11_readLink_91 rfl (lv_at hl 2 rfl) ?_
                refine lv_iconst (v := 5) hx hb dX11_readLink_92 (by decide) ?_
                have hPc := hP.sub (ws' := [(m0, .inr (11, oX11 ra y81))]) [1] rfl
                have hDc := hD.sub (ws' := [(m0, .inr (11, oX11 ra y81))]) [1] (by decide) rfl
                have hFc := va_free (wc := [(m0, .inr (11, oX11 ra y81))]) hD hS hA [1] rfl
                refine va_callv (va_runV (As := [.int 5]) (rest := []) ⟨hx, hb, hml, hown, hts⟩ (s11_wrong l dC dI kB kI kJ kZ kC kS H.size m0 ra y81 5 (hq82) ((iv_w (iv_k (by decide) (by decide) : iv 5 5 5) (by decide) (by decide)))) (cwV 1 hts gX11_readLink_X11_wrong rfl rfl rfl (by decide +kernel) ⟨Nat.le_of_ble_eq_true rfl, Nat.le_of_ble_eq_true rfl⟩) ⟨fun a U g mk q => by obtain ⟨q0, q1, qP, qE, qD⟩ := q; exact ⟨q0, q1, qP, kE_call qE, qD⟩, va_recv hK hP (ci := 11) (q0 := 1) rfl rfl, fun U hU hW => ⟨rfl, by rw [hU], by rw [hU]; exact hPc, kE_warm hW hE, hDc.weaken (fun _ _ _ _ => trivial)⟩⟩ rfl rfl hl.1 rfl (lv_room (Nat.le_of_ble_eq_true rfl)) dX11_readLink_93 ⟨Nat.le_of_ble_eq_true rfl, Nat.le_of_ble_eq_true rfl⟩) hS (fun q _ h => hFc q h) hFc (fun u t H1 locs ht hvm w117 hB hz1 hk1 hS => ?_)
                obtain ⟨y118, hq119, hq120, hq121, hq122, hq123, hP1, hD1⟩ := hB
                rw [ht] at hP1
                try dsimp only at w117
                obtain ⟨hP, hD⟩ := va_join (wr := [(ra 13, .inl (kI, 700, .inl q_tape)), (ra 2, .inl (kI, 8, .inl q_told)), (ra 8, .inl (kI, 40, .inl q_from)), (ra 9, .inl (kI, 40, .inl q_to))]) (w1 := [(m0, .inr (11, oX11 ra y118))]) hP hD [1] [0, 2, 3, 4] rfl rfl (by decide) (by decide) hk1 hFc hP1 hD1
                generalize H1 = H at hP hS ⊢
                have hP : va_P (dC, dI) vwCl [(ra 13, .inl (kI, 700, .inl q_tape)), (ra 2, .inl (kI, 8, .inl q_told)), (ra 8, .inl (kI, 40, .inl q_from)), (ra 9, .inl (kI, 40, .inl q_to)), (m0, .inr (11, oX11 ra y118))] H := hP
                have hD : va_D A [(ra 13, .inl (kI, 700, .inl q_tape)), (ra 2, .inl (kI, 8, .inl q_told)), (ra 8, .inl (kI, 40, .inl q_from)), (ra 9, .inl (kI, 40, .inl q_to)), (m0, .inr (11, oX11 ra y118))] := hD
                refine W.widen (k := 0) (n := 0) (Nat.le_of_ble_eq_true rfl) (Nat.le_of_ble_eq_true rfl) ?_
                refine lv_aload_n hx hb dX11_readLink_96 rfl (lv_at hl 2 rfl) ?_
                refine va_get (D := (dC, dI)) (ci := 11) (v := .int (y118 8)) (C := RX11) (T := TX11) (N := 61) hx hb hts hin11 hown hK hP 4 rfl rfl 22 (by decide) hw_1 (fun _ h9 => h9) rfl dX11_readLink_97 ?_
                refine lv_if_eq (tgt := 104) hx hb dX11_readLink_100 (by decide) (fun c9 => absurd c9 (iv_ne hq120 (iv_k (by decide) (by decide) : iv 0 0 0) (by decide))) (fun _ => ?_)
                have hP9 := hP.sub (ws' := [(m0, .inr (11, oX11 ra y118)), (ra 2, .inl (kI, 8, .inl q_told)), (ra 8, .inl (kI, 40, .inl q_from)), (ra 9, .inl (kI, 40, .inl q_to)), (ra 13, .inl (kI, 700, .inl q_tape))]) [4, 1, 2, 3, 0] rfl
                have hD9 := hD.sub (ws' := [(m0, .inr (11, oX11 ra y118)), (ra 2, .inl (kI, 8, .inl q_told)), (ra 8, .inl (kI, 40, .inl q_from)), (ra 9, .inl (kI, 40, .inl q_to)), (ra 13, .inl (kI, 700, .inl q_tape))]) [4, 1, 2, 3, 0] (by decide) rfl
                exact W.vret hx hb hr (fun t ht hW => ⟨⟨(), rfl, trivial, y118, q_told, q_from, q_to, hq119, hq_told, hq_from, hq_to, (show (x0 2).toInt ≤ (y118 2).toInt from by omega), (show y118 3 = x0 3 from hq122.trans (hq84.trans (hq76.trans (hq18.trans (hq10))))), (show ∀ j : Nat, (j : Int) < (q_told 1).toInt → (q_from j).toInt < (q_to j).toInt from hLT), (show ∀ j : Nat, (j : Int) < (q_told 5).toInt → (q_from (20 + j)).toInt < (q_to (20 + j)).toInt from hLD), (show y118 1 = x0 1 from hq123.trans (hq85.trans (hq78.trans (hq19.trans (hq12))))), by rw [ht]; exact hP9, hD9⟩, hS.F ht⟩) hS.2.2 dX11_readLink_103
        · have b124 : iv 4 4 r68 := iv_eqL c70 (iv_k (by decide) (by decide) : iv 4 4 4)
          refine lv_aload_n hx hb dX11_readLink_49 rfl (lv_at hl 1 rfl) ?_
          refine lv_iconst (v := 2) hx hb dX11_readLink_50 (by decide) ?_
          have hPc := hP.sub (ws' := [(m0, .inr (11, oX11 ra y15))]) [2] rfl
          have hDc := hD.sub (ws' := [(m0, .inr (11, oX11 ra y15))]) [2] (by decide) rfl
          have hFc := va_free (wc := [(m0, .inr (11, oX11 ra y15))]) hD hS hA [2] rfl
          refine va_callv (va_runV (As := [.int 2]) (rest := []) ⟨hx, hb, hml, hown, hts⟩ (s11_wrong l dC dI kB kI kJ kZ kC kS H.size m0 ra y15 2 (hq16) ((iv_w (iv_k (by decide) (by decide) : iv 2 2 2) (by decide) (by decide)))) (cwV 1 hts gX11_readLink_X11_wrong rfl rfl rfl (by decide +kernel) ⟨Nat.le_of_ble_eq_true rfl, Nat.le_of_ble_eq_true rfl⟩) ⟨fun a U g mk q => by obtain ⟨q0, q1, qP, qE, qD⟩ := q; exact ⟨q0, q1, qP, kE_call qE, qD⟩, va_recv hK hP (ci := 11) (q0 := 2) rfl rfl, fun U hU hW => ⟨rfl, by rw [hU], by rw [hU]; exact hPc, kE_warm hW hE, hDc.weaken (fun _ _ _ _ => trivial)⟩⟩ rfl rfl hl.1 rfl (lv_room (Nat.le_of_ble_eq_true rfl)) dX11_readLink_51 ⟨Nat.le_of_ble_eq_true rfl, Nat.le_of_ble_eq_true rfl⟩) hS (fun q _ h => hFc q h) hFc (fun u t H1 locs ht hvm w126 hB hz1 hk1 hS => ?_)
          obtain ⟨y127, hq128, hq129, hq130, hq131, hq132, hP1, hD1⟩ := hB
          rw [ht] at hP1
          try dsimp only at w126
          obtain ⟨hP, hD⟩ := va_join (wr := [(ra 9, .inl (kI, 40, .inl q_to)), (ra 13, .inl (kI, 700, .inl q_tape)), (ra 2, .inl (kI, 8, .inl q_told)), (ra 8, .inl (kI, 40, .inl q_from))]) (w1 := [(m0, .inr (11, oX11 ra y127))]) hP hD [2] [0, 1, 3, 4] rfl rfl (by decide) (by decide) hk1 hFc hP1 hD1
          generalize H1 = H at hP hS ⊢
          have hP : va_P (dC, dI) vwCl [(ra 9, .inl (kI, 40, .inl q_to)), (ra 13, .inl (kI, 700, .inl q_tape)), (ra 2, .inl (kI, 8, .inl q_told)), (ra 8, .inl (kI, 40, .inl q_from)), (m0, .inr (11, oX11 ra y127))] H := hP
          have hD : va_D A [(ra 9, .inl (kI, 40, .inl q_to)), (ra 13, .inl (kI, 700, .inl q_tape)), (ra 2, .inl (kI, 8, .inl q_told)), (ra 8, .inl (kI, 40, .inl q_from)), (m0, .inr (11, oX11 ra y127))] := hD
          refine W.widen (k := 0) (n := 0) (Nat.le_of_ble_eq_true rfl) (Nat.le_of_ble_eq_true rfl) ?_
          refine lv_aload_n hx hb dX11_readLink_54 rfl (lv_at hl 1 rfl) ?_
          refine va_get (D := (dC, dI)) (ci := 11) (v := .int (y127 8)) (C := RX11) (T := TX11) (N := 61) hx hb hts hin11 hown hK hP 4 rfl rfl 22 (by decide) hw_1 (fun _ h9 => h9) rfl dX11_readLink_55 ?_
          refine lv_if_ne (tgt := 65) hx hb dX11_readLink_58 (by decide) (fun _ => ?_) (fun c9 => absurd c9 (iv_ne hq129 (iv_k (by decide) (by decide) : iv 0 0 0) (by decide)))
          refine lv_aload_n hx hb dX11_readLink_65 rfl (lv_at hl 1 rfl) ?_
          have hPc := hP.sub (ws' := [(m0, .inr (11, oX11 ra y127)), (ra 2, .inl (kI, 8, .inl q_told))]) [4, 2] rfl
          have hDc := hD.sub (ws' := [(m0, .inr (11, oX11 ra y127)), (ra 2, .inl (kI, 8, .inl q_told))]) [4, 2] (by decide) rfl
          have hFc := va_free (wc := [(m0, .inr (11, oX11 ra y127)), (ra 2, .inl (kI, 8, .inl q_told))]) hD hS hA [4, 2] rfl
          refine va_calli (va_runV (As := []) (rest := []) ⟨hx, hb, hml, hown, hts⟩ (s11_routerNow l dC dI kB kI kJ kZ kC kS H.size m0 ra y127 q_told (hq128) (hq_told)) (cwV 0 hts gX11_readLink_X11_routerNow rfl rfl rfl (by decide +kernel) ⟨Nat.le_of_ble_eq_true rfl, Nat.le_of_ble_eq_true rfl⟩) ⟨fun a U g mk q => by obtain ⟨q0, q1, qP, qE, qD⟩ := q; exact ⟨q0, q1, qP, kE_call qE, qD⟩, va_recv hK hP (ci := 11) (q0 := 4) rfl rfl, fun U hU hW => ⟨rfl, by rw [hU], by rw [hU]; exact hPc, kE_warm hW hE, hDc.weaken (fun _ _ _ _ => trivial)⟩⟩ rfl rfl hl.1 rfl (lv_room (Nat.le_of_ble_eq_true rfl)) dX11_readLink_66 ⟨Nat.le_of_ble_eq_true rfl, Nat.le_of_ble_eq_true rfl⟩) hS (fun q _ h => hFc q h) hFc (fun r133 u t H1 locs ht hvm w134 hB hz1 hk1 hS => ?_)
          obtain ⟨y135, hq136, hq137, hq138, hq139, hP1, hD1⟩ := hB
          rw [ht] at hP1
          try dsimp only at w134
          obtain ⟨hP, hD⟩ := va_join (wr := [(ra 9, .inl (kI, 40, .inl q_to)), (ra 13, .inl (kI, 700, .inl q_tape)), (ra 8, .inl (kI, 40, .inl q_from))]) (w1 := [(m0, .inr (11, oX11 ra y135)), (ra 2, .inl (kI, 8, .inl q_told))]) hP hD [4, 2] [0, 1, 3] rfl rfl (by decide) (by decide) hk1 hFc hP1 hD1
          generalize H1 = H at hP hS ⊢
          have hP : va_P (dC, dI) vwCl [(ra 9, .inl (kI, 40, .inl q_to)), (ra 13, .inl (kI, 700, .inl q_tape)), (ra 8, .inl (kI, 40, .inl q_from)), (m0, .inr (11, oX11 ra y135)), (ra 2, .inl (kI, 8, .inl q_told))] H := hP
          have hD : va_D A [(ra 9, .inl (kI, 40, .inl q_to)), (ra 13, .inl (kI, 700, .inl q_tape)), (ra 8, .inl (kI, 40, .inl q_from)), (m0, .inr (11, oX11 ra y135)), (ra 2, .inl (kI, 8, .inl q_told))] := hD
          refine W.widen (k := 0) (n := 0) (Nat.le_of_ble_eq_true rfl) (Nat.le_of_ble_eq_true rfl) ?_
          refine lv_istore_n (lv' := [(2, .int r133), (1, .int r13), (0, .ref m0)]) hx hb dX11_readLink_69 rfl hl (by decide) rfl (fun ls hl => ?_)
          refine lv_aload_n hx hb dX11_readLink_70 rfl (lv_at hl 2 rfl) ?_
          refine va_get (D := (dC, dI)) (ci := 11) (v := .int (y135 8)) (C := RX11) (T := TX11) (N := 61) hx hb hts hin11 hown hK hP 3 rfl rfl 22 (by decide) hw_1 (fun _ h9 => h9) rfl dX11_readLink_71 ?_
          refine lv_if_ne (tgt := 96) hx hb dX11_readLink_74 (by decide) (fun c140 => ?_) (fun c140 => ?_)
          · have b141 : iv 1 5 (y135 8) := iv_neLo c140 (hq136 8 : iv 0 5 (y135 8)) (iv_k (by decide) (by decide) : iv 0 0 0) (by decide) (by decide)
            refine lv_aload_n hx hb dX11_readLink_96 rfl (lv_at hl 2 rfl) ?_
            refine va_get (D := (dC, dI)) (ci := 11) (v := .int (y135 8)) (C := RX11) (T := TX11) (N := 61) hx hb hts hin11 hown hK hP 3 rfl rfl 22 (by decide) hw_1 (fun _ h9 => h9) rfl dX11_readLink_97 ?_
            refine lv_if_eq (tgt := 104) hx hb dX11_readLink_100 (by decide) (fun c9 => absurd c9 (c140)) (fun _ => ?_)
            have hP9 := hP.sub (ws' := [(m0, .inr (11, oX11 ra y135)), (ra 2, .inl (kI, 8, .inl q_told)), (ra 8, .inl (kI, 40, .inl q_from)), (ra 9, .inl (kI, 40, .inl q_to)), (ra 13, .inl (kI, 700, .inl q_tape))]) [3, 4, 2, 0, 1] rfl
            have hD9 := hD.sub (ws' := [(m0, .inr (11, oX11 ra y135)), (ra 2, .inl (kI, 8, .inl q_told)), (ra 8, .inl (kI, 40, .inl q_from)), (ra 9, .inl (kI, 40, .inl q_to)), (ra 13, .inl (kI, 700, .inl q_tape))]) [3, 4, 2, 0, 1] (by decide) rfl
            exact W.vret hx hb hr (fun t ht hW => ⟨⟨(), rfl, trivial, y135, q_told, q_from, q_to, hq136, hq_told, hq_from, hq_to, (show (x0 2).toInt ≤ (y135 2).toInt from by omega), (show y135 3 = x0 3 from hq138.trans (hq131.trans (hq18.trans (hq10)))), (show ∀ j : Nat, (j : Int) < (q_told 1).toInt → (q_from j).toInt < (q_to j).toInt from hLT), (show ∀ j : Nat, (j : Int) < (q_told 5).toInt → (q_from (20 + j)).toInt < (q_to (20 + j)).toInt from hLD), (show y135 1 = x0 1 from hq139.trans (hq132.trans (hq19.trans (hq12)))), by rw [ht]; exact hP9, hD9⟩, hS.F ht⟩) hS.2.2 dX11_readLink_103
          · have b142 : iv 0 0 (y135 8) := iv_eqL c140 (iv_k (by decide) (by decide) : iv 0 0 0)
            refine lv_iload_n hx hb dX11_readLink_77 rfl (lv_at hl 0 rfl) ?_
            refine lv_iload_n hx hb dX11_readLink_78 rfl (lv_at hl 1 rfl) ?_
            refine lv_icmp_le (tgt := 91) hx hb dX11_readLink_79 (by decide) (fun c143 => ?_) (fun c143 => ?_)
            · refine lv_aload_n hx hb dX11_readLink_91 rfl (lv_at hl 2 rfl) ?_
              refine lv_iconst (v := 5) hx hb dX11_readLink_92 (by decide) ?_
              have hPc := hP.sub (ws' := [(m0, .inr (11, oX11 ra y135))]) [3] rfl
              have hDc := hD.sub (ws' := [(m0, .inr (11, oX11 ra y135))]) [3] (by decide) rfl
              have hFc := va_free (wc := [(m0, .inr (11, oX11 ra y135))]) hD hS hA [3] rfl
              refine va_callv (va_runV (As := [.int 5]) (rest := []) ⟨hx, hb, hml, hown, hts⟩ (s11_wrong l dC dI kB kI kJ kZ kC kS H.size m0 ra y135 5 (hq136) ((iv_w (iv_k (by decide) (by decide) : iv 5 5 5) (by decide) (by decide)))) (cwV 1 hts gX11_readLink_X11_wrong rfl rfl rfl (by decide +kernel) ⟨Nat.le_of_ble_eq_true rfl, Nat.le_of_ble_eq_true rfl⟩) ⟨fun a U g mk q => by obtain ⟨q0, q1, qP, qE, qD⟩ := q; exact ⟨q0, q1, qP, kE_call qE, qD⟩, va_recv hK hP (ci := 11) (q0 := 3) rfl rfl, fun U hU hW => ⟨rfl, by rw [hU], by rw [hU]; exact hPc, kE_warm hW hE, hDc.weaken (fun _ _ _ _ => trivial)⟩⟩ rfl rfl hl.1 rfl (lv_room (Nat.le_of_ble_eq_true rfl)) dX11_readLink_93 ⟨Nat.le_of_ble_eq_true rfl, Nat.le_of_ble_eq_true rfl⟩) hS (fun q _ h => hFc q h) hFc (fun u t H1 locs ht hvm w145 hB hz1 hk1 hS => ?_)
              obtain ⟨y146, hq147, hq148, hq149, hq150, hq151, hP1, hD1⟩ := hB
              rw [ht] at hP1
              try dsimp only at w145
              obtain ⟨hP, hD⟩ := va_join (wr := [(ra 9, .inl (kI, 40, .inl q_to)), (ra 13, .inl (kI, 700, .inl q_tape)), (ra 8, .inl (kI, 40, .inl q_from)), (ra 2, .inl (kI, 8, .inl q_told))]) (w1 := [(m0, .inr (11, oX11 ra y146))]) hP hD [3] [0, 1, 2, 4] rfl rfl (by decide) (by decide) hk1 hFc hP1 hD1
              generalize H1 = H at hP hS ⊢
              have hP : va_P (dC, dI) vwCl [(ra 9, .inl (kI, 40, .inl q_to)), (ra 13, .inl (kI, 700, .inl q_tape)), (ra 8, .inl (kI, 40, .inl q_from)), (ra 2, .inl (kI, 8, .inl q_told)), (m0, .inr (11, oX11 ra y146))] H := hP
              have hD : va_D A [(ra 9, .inl (kI, 40, .inl q_to)), (ra 13, .inl (kI, 700, .inl q_tape)), (ra 8, .inl (kI, 40, .inl q_from)), (ra 2, .inl (kI, 8, .inl q_told)), (m0, .inr (11, oX11 ra y146))] := hD
              refine W.widen (k := 0) (n := 0) (Nat.le_of_ble_eq_true rfl) (Nat.le_of_ble_eq_true rfl) ?_
              refine lv_aload_n hx hb dX11_readLink_96 rfl (lv_at hl 2 rfl) ?_
              refine va_get (D := (dC, dI)) (ci := 11) (v := .int (y146 8)) (C := RX11) (T := TX11) (N := 61) hx hb hts hin11 hown hK hP 4 rfl rfl 22 (by decide) hw_1 (fun _ h9 => h9) rfl dX11_readLink_97 ?_
              refine lv_if_eq (tgt := 104) hx hb dX11_readLink_100 (by decide) (fun c9 => absurd c9 (iv_ne hq148 (iv_k (by decide) (by decide) : iv 0 0 0) (by decide))) (fun _ => ?_)
              have hP9 := hP.sub (ws' := [(m0, .inr (11, oX11 ra y146)), (ra 2, .inl (kI, 8, .inl q_told)), (ra 8, .inl (kI, 40, .inl q_from)), (ra 9, .inl (kI, 40, .inl q_to)), (ra 13, .inl (kI, 700, .inl q_tape))]) [4, 3, 2, 0, 1] rfl
              have hD9 := hD.sub (ws' := [(m0, .inr (11, oX11 ra y146)), (ra 2, .inl (kI, 8, .inl q_told)), (ra 8, .inl (kI, 40, .inl q_from)), (ra 9, .inl (kI, 40, .inl q_to)), (ra 13, .inl (kI, 700, .inl q_tape))]) [4, 3, 2, 0, 1] (by decide) rfl
              exact W.vret hx hb hr (fun t ht hW => ⟨⟨(), rfl, trivial, y146, q_told, q_from, q_to, hq147, hq_told, hq_from, hq_to, (show (x0 2).toInt ≤ (y146 2).toInt from by omega), (show y146 3 = x0 3 from hq150.trans (hq138.trans (hq131.trans (hq18.trans (hq10))))), (show ∀ j : Nat, (j : Int) < (q_told 1).toInt → (q_from j).toInt < (q_to j).toInt from hLT), (show ∀ j : Nat, (j : Int) < (q_told 5).toInt → (q_from (20 + j)).toInt < (q_to (20 + j)).toInt from hLD), (show y146 1 = x0 1 from hq151.trans (hq139.trans (hq132.trans (hq19.trans (hq12))))), by rw [ht]; exact hP9, hD9⟩, hS.F ht⟩) hS.2.2 dX11_readLink_103
            · have b152 : iv 0 10 r13 := iv_ltL (Int32.not_le.mp c143) w14 w134 (by decide) (by decide)
              have b153 : iv 1 11 r133 := iv_ltR (Int32.not_le.mp c143) w14 w134 (by decide) (by decide)
              refine lv_aload_n hx hb dX11_readLink_82 rfl (lv_at hl 2 rfl) ?_
              refine lv_iload_n hx hb dX11_readLink_83 rfl (lv_at hl 1 rfl) ?_
              refine lv_iload_n hx hb dX11_readLink_84 rfl (lv_at hl 0 rfl) ?_
              have hPc := hP.sub (ws' := [(m0, .inr (11, oX11 ra y135)), (ra 2, .inl (kI, 8, .inl q_told)), (ra 8, .inl (kI, 40, .inl q_from)), (ra 9, .inl (kI, 40, .inl q_to))]) [3, 4, 2, 0] rfl
              have hDc := hD.sub (ws' := [(m0, .inr (11, oX11 ra y135)), (ra 2, .inl (kI, 8, .inl q_told)), (ra 8, .inl (kI, 40, .inl q_from)), (ra 9, .inl (kI, 40, .inl q_to))]) [3, 4, 2, 0] (by decide) rfl
              have hFc := va_free (wc := [(m0, .inr (11, oX11 ra y135)), (ra 2, .inl (kI, 8, .inl q_told)), (ra 8, .inl (kI, 40, .inl q_from)), (ra 9, .inl (kI, 40, .inl q_to))]) hD hS hA [3, 4, 2, 0] rfl
              refine va_calli (va_runV (As := [.int r13, .int r133]) (rest := []) ⟨hx, hb, hml, hown, hts⟩ (s11_hasLink l dC dI kB kI kJ kZ kC kS H.size m0 ra y135 q_told q_from q_to r13 r133 (hq136) (hq_told) (hq_from) (hq_to)) (cwV 2 hts gX11_readLink_X11_hasLink rfl rfl rfl (by decide +kernel) ⟨Nat.le_of_ble_eq_true rfl, Nat.le_of_ble_eq_true rfl⟩) ⟨fun a U g mk q => by obtain ⟨q0, q1, qP, qE, qD⟩ := q; exact ⟨q0, q1, qP, kE_call qE, qD⟩, va_recv hK hP (ci := 11) (q0 := 3) rfl rfl, fun U hU hW => ⟨rfl, by rw [hU], by rw [hU]; exact hPc, kE_warm hW hE, hDc.weaken (fun _ _ _ _ => trivial)⟩⟩ rfl rfl hl.1 rfl (lv_room (Nat.le_of_ble_eq_true rfl)) dX11_readLink_85 ⟨Nat.le_of_ble_eq_true rfl, Nat.le_of_ble_eq_true rfl⟩) hS (fun q _ h => hFc q h) hFc (fun r154 u t H1 locs ht hvm w155 hB hz1 hk1 hS => ?_)
              obtain ⟨hP1, hD1⟩ := hB
              rw [ht] at hP1
              try dsimp only at w155
              obtain ⟨hP, hD⟩ := va_join (wr := [(ra 13, .inl (kI, 700, .inl q_tape))]) (w1 := [(m0, .inr (11, oX11 ra y135)), (ra 2, .inl (kI, 8, .inl q_told)), (ra 8, .inl (kI, 40, .inl q_from)), (ra 9, .inl (kI, 40, .inl q_to))]) hP hD [3, 4, 2, 0] [1] rfl rfl (by decide) (by decide) hk1 hFc hP1 hD1
              generalize H1 = H at hP hS ⊢
              have hP : va_P (dC, dI) vwCl [(ra 13, .inl (kI, 700, .inl q_tape)), (m0, .inr (11, oX11 ra y135)), (ra 2, .inl (kI, 8, .inl q_told)), (ra 8, .inl (kI, 40, .inl q_from)), (ra 9, .inl (kI, 40, .inl q_to))] H := hP
              have hD : va_D A [(ra 13, .inl (kI, 700, .inl q_tape)), (m0, .inr (11, oX11 ra y135)), (ra 2, .inl (kI, 8, .inl q_told)), (ra 8, .inl (kI, 40, .inl q_from)), (ra 9, .inl (kI, 40, .inl q_to))] := hD
              refine W.widen (k := 0) (n := 0) (Nat.le_of_ble_eq_true rfl) (Nat.le_of_ble_eq_true rfl) ?_
              refine lv_if_eq (tgt := 96) hx hb dX11_readLink_88 (by decide) (fun c156 => ?_) (fun c156 => ?_)
              · have b157 : iv 0 0 r154 := iv_eqL c156 (iv_k (by decide) (by decide) : iv 0 0 0)
                refine lv_aload_n hx hb dX11_readLink_96 rfl (lv_at hl 2 rfl) ?_
                refine va_get (D := (dC, dI)) (ci := 11) (v := .int (y135 8)) (C := RX11) (T := TX11) (N := 61) hx hb hts hin11 hown hK hP 1 rfl rfl 22 (by decide) hw_1 (fun _ h9 => h9) rfl dX11_readLink_97 ?_
                refine lv_if_eq (tgt := 104) hx hb dX11_readLink_100 (by decide) (fun _ => ?_) (fun c9 => absurd (c140) c9)
                refine lv_aload_n hx hb dX11_readLink_104 rfl (lv_at hl 2 rfl) ?_
                have hPc := hP.sub (ws' := [(m0, .inr (11, oX11 ra y135)), (ra 13, .inl (kI, 700, .inl q_tape))]) [1, 0] rfl
                have hDc := hD.sub (ws' := [(m0, .inr (11, oX11 ra y135)), (ra 13, .inl (kI, 700, .inl q_tape))]) [1, 0] (by decide) rfl
                have hFc := va_free (wc := [(m0, .inr (11, oX11 ra y135)), (ra 13, .inl (kI, 700, .inl q_tape))]) hD hS hA [1, 0] rfl
                refine va_callv (va_runV (As := []) (rest := []) ⟨hx, hb, hml, hown, hts⟩ (s11_stepOn l dC dI kB kI kJ kZ kC kS H.size m0 ra y135 q_tape (hq136) (hq_tape)) (cwV 0 hts gX11_readLink_X11_stepOn rfl rfl rfl (by decide +kernel) ⟨Nat.le_of_ble_eq_true rfl, Nat.le_of_ble_eq_true rfl⟩) ⟨fun a U g mk q => by obtain ⟨q0, q1, qP, qE, qD⟩ := q; exact ⟨q0, q1, qP, kE_call qE, qD⟩, va_recv hK hP (ci := 11) (q0 := 1) rfl rfl, fun U hU hW => ⟨rfl, by rw [hU], by rw [hU]; exact hPc, kE_warm hW hE, hDc.weaken (fun _ _ _ _ => trivial)⟩⟩ rfl rfl hl.1 rfl (lv_room (Nat.le_of_ble_eq_true rfl)) dX11_readLink_105 ⟨Nat.le_of_ble_eq_true rfl, Nat.le_of_ble_eq_true rfl⟩) hS (fun q _ h => hFc q h) hFc (fun u t H1 locs ht hvm w159 hB hz1 hk1 hS => ?_)
                obtain ⟨y160, hq161, hq162, hq163, hq164, hq165, hP1, hD1⟩ := hB
                rw [ht] at hP1
                try dsimp only at w159
                obtain ⟨hP, hD⟩ := va_join (wr := [(ra 2, .inl (kI, 8, .inl q_told)), (ra 8, .inl (kI, 40, .inl q_from)), (ra 9, .inl (kI, 40, .inl q_to))]) (w1 := [(m0, .inr (11, oX11 ra y160)), (ra 13, .inl (kI, 700, .inl q_tape))]) hP hD [1, 0] [2, 3, 4] rfl rfl (by decide) (by decide) hk1 hFc hP1 hD1
                generalize H1 = H at hP hS ⊢
                have hP : va_P (dC, dI) vwCl [(ra 2, .inl (kI, 8, .inl q_told)), (ra 8, .inl (kI, 40, .inl q_from)), (ra 9, .inl (kI, 40, .inl q_to)), (m0, .inr (11, oX11 ra y160)), (ra 13, .inl (kI, 700, .inl q_tape))] H := hP
                have hD : va_D A [(ra 2, .inl (kI, 8, .inl q_told)), (ra 8, .inl (kI, 40, .inl q_from)), (ra 9, .inl (kI, 40, .inl q_to)), (m0, .inr (11, oX11 ra y160)), (ra 13, .inl (kI, 700, .inl q_tape))] := hD
                refine W.widen (k := 0) (n := 0) (Nat.le_of_ble_eq_true rfl) (Nat.le_of_ble_eq_true rfl) ?_
                refine lv_aload_n hx hb dX11_readLink_108 rfl (lv_at hl 2 rfl) ?_
                refine va_get (D := (dC, dI)) (ci := 11) (v := .ref (ra 8)) (C := RX11) (T := TX11) (N := 61) hx hb hts hin11 hown hK hP 3 rfl rfl 9 (by decide) hw_2 (fun _ h9 => h9) rfl dX11_readLink_109 ?_
                refine lv_bipush (v := 20) hx hb dX11_readLink_112 (by decide) ?_
                refine lv_aload_n hx hb dX11_readLink_114 rfl (lv_at hl 2 rfl) ?_
                refine va_get (D := (dC, dI)) (ci := 11) (v := .ref (ra 2)) (C := RX11) (T := TX11) (N := 61) hx hb hts hin11 hown hK hP 3 rfl rfl 3 (by decide) hw_0 (fun _ h9 => h9) rfl dX11_readLink_115 ?_
                refine lv_iconst (v := 5) hx hb dX11_readLink_118 (by decide) ?_
                refine va_iald hx hb hK hP 0 1 rfl rfl (vp_in_nI (n := 5) (by decide) (by decide)) dX11_readLink_119 ?_
                refine W.eq (g2 := F0 m 120 ls [.int (q_told 5), .int 20, .ref (ra 8)]) rfl ?_
                refine lv_iadd hx hb dX11_readLink_120 ?_
                have b166 : iv 20 39 (20 + (q_told 5)) := iv_add (iv_k (by decide) (by decide) : iv 20 20 20) b2 (by decide) (by decide) (by decide) (by decide)
                refine lv_iload_n hx hb dX11_readLink_121 rfl (lv_at hl 1 rfl) ?_
                refine va_iast hx hb hK hP hD hS 1 1 rfl rfl (iv_in b166 (by decide) (by decide)) dX11_readLink_122 (fun H locs hP hD hS => ?_)
                have hP : va_P (dC, dI) vwCl [(ra 2, .inl (kI, 8, .inl q_told)), (ra 8, .inl (kI, 40, .inl (upd q_from (20 + (q_told 5)).toNatClampNeg r13))), (ra 9, .inl (kI, 40, .inl q_to)), (m0, .inr (11, oX11 ra y160)), (ra 13, .inl (kI, 700, .inl q_tape))] H := hP
                have hD : va_D A [(ra 2, .inl (kI, 8, .inl q_told)), (ra 8, .inl (kI, 40, .inl (upd q_from (20 + (q_told 5)).toNatClampNeg r13))), (ra 9, .inl (kI, 40, .inl q_to)), (m0, .inr (11, oX11 ra y160)), (ra 13, .inl (kI, 700, .inl q_tape))] := hD
                refine lv_aload_n hx hb dX11_readLink_123 rfl (lv_at hl 2 rfl) ?_
                refine va_get (D := (dC, dI)) (ci := 11) (v := .ref (ra 9)) (C := RX11) (T := TX11) (N := 61) hx hb hts hin11 hown hK hP 3 rfl rfl 10 (by decide) hw_3 (fun _ h9 => h9) rfl dX11_readLink_124 ?_
                refine lv_bipush (v := 20) hx hb dX11_readLink_127 (by decide) ?_
                refine lv_aload_n hx hb dX11_readLink_129 rfl (lv_at hl 2 rfl) ?_
                refine va_get (D := (dC, dI)) (ci := 11) (v := .ref (ra 2)) (C := RX11) (T := TX11) (N := 61) hx hb hts hin11 hown hK hP 3 rfl rfl 3 (by decide) hw_0 (fun _ h9 => h9) rfl dX11_readLink_130 ?_
                refine lv_iconst (v := 5) hx hb dX11_readLink_133 (by decide) ?_
                refine va_iald hx hb hK hP 0 1 rfl rfl (vp_in_nI (n := 5) (by decide) (by decide)) dX11_readLink_134 ?_
                refine W.eq (g2 := F0 m 135 ls [.int (q_told 5), .int 20, .ref (ra 9)]) rfl ?_
                refine lv_iadd hx hb dX11_readLink_135 ?_
                have b167 : iv 20 39 (20 + (q_told 5)) := iv_add (iv_k (by decide) (by decide) : iv 20 20 20) b2 (by decide) (by decide) (by decide) (by decide)
                refine lv_iload_n hx hb dX11_readLink_136 rfl (lv_at hl 0 rfl) ?_
                refine va_iast hx hb hK hP hD hS 2 1 rfl rfl (iv_in b167 (by decide) (by decide)) dX11_readLink_137 (fun H locs hP hD hS => ?_)
                have hP : va_P (dC, dI) vwCl [(ra 2, .inl (kI, 8, .inl q_told)), (ra 8, .inl (kI, 40, .inl (upd q_from (20 + (q_told 5)).toNatClampNeg r13))), (ra 9, .inl (kI, 40, .inl (upd q_to (20 + (q_told 5)).toNatClampNeg r133))), (m0, .inr (11, oX11 ra y160)), (ra 13, .inl (kI, 700, .inl q_tape))] H := hP
                have hD : va_D A [(ra 2, .inl (kI, 8, .inl q_told)), (ra 8, .inl (kI, 40, .inl (upd q_from (20 + (q_told 5)).toNatClampNeg r13))), (ra 9, .inl (kI, 40, .inl (upd q_to (20 + (q_told 5)).toNatClampNeg r133))), (m0, .inr (11, oX11 ra y160)), (ra 13, .inl (kI, 700, .inl q_tape))] := hD
                refine lv_aload_n hx hb dX11_readLink_138 rfl (lv_at hl 2 rfl) ?_
                refine va_get (D := (dC, dI)) (ci := 11) (v := .ref (ra 2)) (C := RX11) (T := TX11) (N := 61) hx hb hts hin11 hown hK hP 3 rfl rfl 3 (by decide) hw_0 (fun _ h9 => h9) rfl dX11_readLink_139 ?_
                refine lv_iconst (v := 5) hx hb dX11_readLink_142 (by decide) ?_
                refine lv_dup2_11 hx hb dX11_readLink_143 rfl rfl ?_
                refine va_iald hx hb hK hP 0 1 rfl rfl (vp_in_nI (n := 5) (by decide) (by decide)) dX11_readLink_144 ?_
                refine W.eq (g2 := F0 m 145 ls [.int (q_told 5), .int 5, .ref (ra 2)]) rfl ?_
                refine lv_iconst (v := 1) hx hb dX11_readLink_145 (by decide) ?_
                refine lv_iadd hx hb dX11_readLink_146 ?_
                have b168 : iv 1 20 ((q_told 5) + 1) := iv_add b2 (iv_k (by decide) (by decide) : iv 1 1 1) (by decide) (by decide) (by decide) (by decide)
                refine va_iast hx hb hK hP hD hS 0 1 rfl rfl (vp_in_nI (n := 5) (by decide) (by decide)) dX11_readLink_147 (fun H locs hP hD hS => ?_)
                have hP : va_P (dC, dI) vwCl [(ra 2, .inl (kI, 8, .inl (upd q_told 5 ((q_told 5) + 1)))), (ra 8, .inl (kI, 40, .inl (upd q_from (20 + (q_told 5)).toNatClampNeg r13))), (ra 9, .inl (kI, 40, .inl (upd q_to (20 + (q_told 5)).toNatClampNeg r133))), (m0, .inr (11, oX11 ra y160)), (ra 13, .inl (kI, 700, .inl q_tape))] H := hP
                have hD : va_D A [(ra 2, .inl (kI, 8, .inl (upd q_told 5 ((q_told 5) + 1)))), (ra 8, .inl (kI, 40, .inl (upd q_from (20 + (q_told 5)).toNatClampNeg r13))), (ra 9, .inl (kI, 40, .inl (upd q_to (20 + (q_told 5)).toNatClampNeg r133))), (m0, .inr (11, oX11 ra y160)), (ra 13, .inl (kI, 700, .inl q_tape))] := hD
                have hP9 := hP.sub (ws' := [(m0, .inr (11, oX11 ra y160)), (ra 2, .inl (kI, 8, .inl (upd q_told 5 ((q_told 5) + 1)))), (ra 8, .inl (kI, 40, .inl (upd q_from (20 + (q_told 5)).toNatClampNeg r13))), (ra 9, .inl (kI, 40, .inl (upd q_to (20 + (q_told 5)).toNatClampNeg r133))), (ra 13, .inl (kI, 700, .inl q_tape))]) [3, 0, 1, 2, 4] rfl
                have hD9 := hD.sub (ws' := [(m0, .inr (11, oX11 ra y160)), (ra 2, .inl (kI, 8, .inl (upd q_told 5 ((q_told 5) + 1)))), (ra 8, .inl (kI, 40, .inl (upd q_from (20 + (q_told 5)).toNatClampNeg r13))), (ra 9, .inl (kI, 40, .inl (upd q_to (20 + (q_told 5)).toNatClampNeg r133))), (ra 13, .inl (kI, 700, .inl q_tape))]) [3, 0, 1, 2, 4] (by decide) rfl
                exact W.vret hx hb hr (fun t ht hW => ⟨⟨(), rfl, trivial, y160, upd q_told 5 ((q_told 5) + 1), upd q_from (20 + (q_told 5)).toNatClampNeg r13, upd q_to (20 + (q_told 5)).toNatClampNeg r133, hq161, (fI_u hq_told (k := 5) ((iv_w b168 (by decide) (by decide)))), (fI_u hq_from (k := (20 + (q_told 5)).toNatClampNeg) ((iv_w b152 (by decide) (by decide)))), (fI_u hq_to (k := (20 + (q_told 5)).toNatClampNeg) ((iv_w b153 (by decide) (by decide)))), (show (x0 2).toInt ≤ (y160 2).toInt from by omega), (show y160 3 = x0 3 from hq163.trans (hq138.trans (hq131.trans (hq18.trans (hq10))))), lk_lt hLT (hq_told 1) (hq_told 5), lk_ld hLD b2 (Int32.not_le.mp c143), (show y160 1 = x0 1 from hq165.trans (hq139.trans (hq132.trans (hq19.trans (hq12))))), by rw [ht]; exact hP9, hD9⟩, hS.F ht⟩) hS.2.2 dX11_readLink_148
              · have b169 : iv 1 1 r154 := iv_neLo c156 w155 (iv_k (by decide) (by decide) : iv 0 0 0) (by decide) (by decide)
                refine lv_aload_n hx hb dX11_readLink_91 rfl (lv_at hl 2 rfl) ?_
                refine lv_iconst (v := 5) hx hb dX11_readLink_92 (by decide) ?_
                have hPc := hP.sub (ws' := [(m0, .inr (11, oX11 ra y135))]) [1] rfl
                have hDc := hD.sub (ws' := [(m0, .inr (11, oX11 ra y135))]) [1] (by decide) rfl
                have hFc := va_free (wc := [(m0, .inr (11, oX11 ra y135))]) hD hS hA [1] rfl
                refine va_callv (va_runV (As := [.int 5]) (rest := []) ⟨hx, hb, hml, hown, hts⟩ (s11_wrong l dC dI kB kI kJ kZ kC kS H.size m0 ra y135 5 (hq136) ((iv_w (iv_k (by decide) (by decide) : iv 5 5 5) (by decide) (by decide)))) (cwV 1 hts gX11_readLink_X11_wrong rfl rfl rfl (by decide +kernel) ⟨Nat.le_of_ble_eq_true rfl, Nat.le_of_ble_eq_true rfl⟩) ⟨fun a U g mk q => by obtain ⟨q0, q1, qP, qE, qD⟩ := q; exact ⟨q0, q1, qP, kE_call qE, qD⟩, va_recv hK hP (ci := 11) (q0 := 1) rfl rfl, fun U hU hW => ⟨rfl, by rw [hU], by rw [hU]; exact hPc, kE_warm hW hE, hDc.weaken (fun _ _ _ _ => trivial)⟩⟩ rfl rfl hl.1 rfl (lv_room (Nat.le_of_ble_eq_true rfl)) dX11_readLink_93 ⟨Nat.le_of_ble_eq_true rfl, Nat.le_of_ble_eq_true rfl⟩) hS (fun q _ h => hFc q h) hFc (fun u t H1 locs ht hvm w171 hB hz1 hk1 hS => ?_)
                obtain ⟨y172, hq173, hq174, hq175, hq176, hq177, hP1, hD1⟩ := hB
                rw [ht] at hP1
                try dsimp only at w171
                obtain ⟨hP, hD⟩ := va_join (wr := [(ra 13, .inl (kI, 700, .inl q_tape)), (ra 2, .inl (kI, 8, .inl q_told)), (ra 8, .inl (kI, 40, .inl q_from)), (ra 9, .inl (kI, 40, .inl q_to))]) (w1 := [(m0, .inr (11, oX11 ra y172))]) hP hD [1] [0, 2, 3, 4] rfl rfl (by decide) (by decide) hk1 hFc hP1 hD1
                generalize H1 = H at hP hS ⊢
                have hP : va_P (dC, dI) vwCl [(ra 13, .inl (kI, 700, .inl q_tape)), (ra 2, .inl (kI, 8, .inl q_told)), (ra 8, .inl (kI, 40, .inl q_from)), (ra 9, .inl (kI, 40, .inl q_to)), (m0, .inr (11, oX11 ra y172))] H := hP
                have hD : va_D A [(ra 13, .inl (kI, 700, .inl q_tape)), (ra 2, .inl (kI, 8, .inl q_told)), (ra 8, .inl (kI, 40, .inl q_from)), (ra 9, .inl (kI, 40, .inl q_to)), (m0, .inr (11, oX11 ra y172))] := hD
                refine W.widen (k := 0) (n := 0) (Nat.le_of_ble_eq_true rfl) (Nat.le_of_ble_eq_true rfl) ?_
                refine lv_aload_n hx hb dX11_readLink_96 rfl (lv_at hl 2 rfl) ?_
                refine va_get (D := (dC, dI)) (ci := 11) (v := .int (y172 8)) (C := RX11) (T := TX11) (N := 61) hx hb hts hin11 hown hK hP 4 rfl rfl 22 (by decide) hw_1 (fun _ h9 => h9) rfl dX11_readLink_97 ?_
                refine lv_if_eq (tgt := 104) hx hb dX11_readLink_100 (by decide) (fun c9 => absurd c9 (iv_ne hq174 (iv_k (by decide) (by decide) : iv 0 0 0) (by decide))) (fun _ => ?_)
                have hP9 := hP.sub (ws' := [(m0, .inr (11, oX11 ra y172)), (ra 2, .inl (kI, 8, .inl q_told)), (ra 8, .inl (kI, 40, .inl q_from)), (ra 9, .inl (kI, 40, .inl q_to)), (ra 13, .inl (kI, 700, .inl q_tape))]) [4, 1, 2, 3, 0] rfl
                have hD9 := hD.sub (ws' := [(m0, .inr (11, oX11 ra y172)), (ra 2, .inl (kI, 8, .inl q_told)), (ra 8, .inl (kI, 40, .inl q_from)), (ra 9, .inl (kI, 40, .inl q_to)), (ra 13, .inl (kI, 700, .inl q_tape))]) [4, 1, 2, 3, 0] (by decide) rfl
                exact W.vret hx hb hr (fun t ht hW => ⟨⟨(), rfl, trivial, y172, q_told, q_from, q_to, hq173, hq_told, hq_from, hq_to, (show (x0 2).toInt ≤ (y172 2).toInt from by omega), (show y172 3 = x0 3 from hq176.trans (hq138.trans (hq131.trans (hq18.trans (hq10))))), (show ∀ j : Nat, (j : Int) < (q_told 1).toInt → (q_from j).toInt < (q_to j).toInt from hLT), (show ∀ j : Nat, (j : Int) < (q_told 5).toInt → (q_from (20 + j)).toInt < (q_to (20 + j)).toInt from hLD), (show y172 1 = x0 1 from hq177.trans (hq139.trans (hq132.trans (hq19.trans (hq12))))), by rw [ht]; exact hP9, hD9⟩, hS.F ht⟩) hS.2.2 dX11_readLink_103
    · have b178 : iv 1 5 (x0 8) := iv_neLo c3 (hX 8 : iv 0 5 (x0 8)) (iv_k (by decide) (by decide) : iv 0 0 0) (by decide) (by decide)
      have hP9 := hP.sub (ws' := [(m0, .inr (11, oX11 ra x0)), (ra 2, .inl (kI, 8, .inl q_told)), (ra 8, .inl (kI, 40, .inl q_from)), (ra 9, .inl (kI, 40, .inl q_to)), (ra 13, .inl (kI, 700, .inl q_tape))]) [0, 1, 2, 3, 4] rfl
      have hD9 := hD.sub (ws' := [(m0, .inr (11, oX11 ra x0)), (ra 2, .inl (kI, 8, .inl q_told)), (ra 8, .inl (kI, 40, .inl q_from)), (ra 9, .inl (kI, 40, .inl q_to)), (ra 13, .inl (kI, 700, .inl q_tape))]) [0, 1, 2, 3, 4] (by decide) rfl
      exact W.vret hx hb hr (fun t ht hW => ⟨⟨(), rfl, trivial, x0, q_told, q_from, q_to, hX, hq_told, hq_from, hq_to, (show (x0 2).toInt ≤ (x0 2).toInt from by omega), (show x0 3 = x0 3 from rfl), (show ∀ j : Nat, (j : Int) < (q_told 1).toInt → (q_from j).toInt < (q_to j).toInt from hLT), (show ∀ j : Nat, (j : Int) < (q_told 5).toInt → (q_from (20 + j)).toInt < (q_to (20 + j)).toInt from hLD), (show x0 1 = x0 1 from rfl), by rw [ht]; exact hP9, hD9⟩, hS.F ht⟩) hS.2.2 dX11_readLink_23
  · have b179 : iv 20 20 (q_told 5) := iv_eqL c1 (iv_k (by decide) (by decide) : iv 20 20 20)
    refine lv_aload_n hx hb dX11_readLink_11 rfl (lv_at hl 0 rfl) ?_
    refine lv_iconst (v := 2) hx hb dX11_readLink_12 (by decide) ?_
    have hPc := hP.sub (ws' := [(m0, .inr (11, oX11 ra x0))]) [0] rfl
    have hDc := hD.sub (ws' := [(m0, .inr (11, oX11 ra x0))]) [0] (by decide) rfl
    have hFc := va_free (wc := [(m0, .inr (11, oX11 ra x0))]) hD hS hA [0] rfl
    refine va_callv (va_runV (As := [.int 2]) (rest := []) ⟨hx, hb, hml, hown, hts⟩ (s11_wrong l dC dI kB kI kJ kZ kC kS s.heap.size m0 ra x0 2 (hX) ((iv_w (iv_k (by decide) (by decide) : iv 2 2 2) (by decide) (by decide)))) (cwV 1 hts gX11_readLink_X11_wrong rfl rfl rfl (by decide +kernel) ⟨Nat.le_of_ble_eq_true rfl, Nat.le_of_ble_eq_true rfl⟩) ⟨fun a U g mk q => by obtain ⟨q0, q1, qP, qE, qD⟩ := q; exact ⟨q0, q1, qP, kE_call qE, qD⟩, va_recv hK hP (ci := 11) (q0 := 0) rfl rfl, fun U hU hW => ⟨rfl, by rw [hU], by rw [hU]; exact hPc, kE_warm hW hE, hDc.weaken (fun _ _ _ _ => trivial)⟩⟩ rfl rfl hl.1 rfl (lv_room (Nat.le_of_ble_eq_true rfl)) dX11_readLink_13 ⟨Nat.le_of_ble_eq_true rfl, Nat.le_of_ble_eq_true rfl⟩) hS (fun q _ h => hFc q h) hFc (fun u t H1 locs ht hvm w181 hB hz1 hk1 hS => ?_)
    obtain ⟨y182, hq183, hq184, hq185, hq186, hq187, hP1, hD1⟩ := hB
    rw [ht] at hP1
    try dsimp only at w181
    obtain ⟨hP, hD⟩ := va_join (wr := [(ra 2, .inl (kI, 8, .inl q_told)), (ra 8, .inl (kI, 40, .inl q_from)), (ra 9, .inl (kI, 40, .inl q_to)), (ra 13, .inl (kI, 700, .inl q_tape))]) (w1 := [(m0, .inr (11, oX11 ra y182))]) hP hD [0] [1, 2, 3, 4] rfl rfl (by decide) (by decide) hk1 hFc hP1 hD1
    generalize H1 = H at hP hS ⊢
    have hP : va_P (dC, dI) vwCl [(ra 2, .inl (kI, 8, .inl q_told)), (ra 8, .inl (kI, 40, .inl q_from)), (ra 9, .inl (kI, 40, .inl q_to)), (ra 13, .inl (kI, 700, .inl q_tape)), (m0, .inr (11, oX11 ra y182))] H := hP
    have hD : va_D A [(ra 2, .inl (kI, 8, .inl q_told)), (ra 8, .inl (kI, 40, .inl q_from)), (ra 9, .inl (kI, 40, .inl q_to)), (ra 13, .inl (kI, 700, .inl q_tape)), (m0, .inr (11, oX11 ra y182))] := hD
    refine W.widen (k := 0) (n := 0) (Nat.le_of_ble_eq_true rfl) (Nat.le_of_ble_eq_true rfl) ?_
    refine lv_aload_n hx hb dX11_readLink_16 rfl (lv_at hl 0 rfl) ?_
    refine va_get (D := (dC, dI)) (ci := 11) (v := .int (y182 8)) (C := RX11) (T := TX11) (N := 61) hx hb hts hin11 hown hK hP 4 rfl rfl 22 (by decide) hw_1 (fun _ h9 => h9) rfl dX11_readLink_17 ?_
    refine lv_if_eq (tgt := 24) hx hb dX11_readLink_20 (by decide) (fun c9 => absurd c9 (iv_ne hq184 (iv_k (by decide) (by decide) : iv 0 0 0) (by decide))) (fun _ => ?_)
    have hP9 := hP.sub (ws' := [(m0, .inr (11, oX11 ra y182)), (ra 2, .inl (kI, 8, .inl q_told)), (ra 8, .inl (kI, 40, .inl q_from)), (ra 9, .inl (kI, 40, .inl q_to)), (ra 13, .inl (kI, 700, .inl q_tape))]) [4, 0, 1, 2, 3] rfl
    have hD9 := hD.sub (ws' := [(m0, .inr (11, oX11 ra y182)), (ra 2, .inl (kI, 8, .inl q_told)), (ra 8, .inl (kI, 40, .inl q_from)), (ra 9, .inl (kI, 40, .inl q_to)), (ra 13, .inl (kI, 700, .inl q_tape))]) [4, 0, 1, 2, 3] (by decide) rfl
    exact W.vret hx hb hr (fun t ht hW => ⟨⟨(), rfl, trivial, y182, q_told, q_from, q_to, hq183, hq_told, hq_from, hq_to, (show (x0 2).toInt ≤ (y182 2).toInt from by omega), (show y182 3 = x0 3 from hq186), (show ∀ j : Nat, (j : Int) < (q_told 1).toInt → (q_from j).toInt < (q_to j).toInt from hLT), (show ∀ j : Nat, (j : Int) < (q_told 5).toInt → (q_from (20 + j)).toInt < (q_to (20 + j)).toInt from hLD), (show y182 1 = x0 1 from hq187), by rw [ht]; exact hP9, hD9⟩, hS.F ht⟩) hS.2.2 dX11_readLink_23
def rm_s11_readGoal : Room := { frames := 3, cells := 0, slots := 0, locals := 64 }
set_option maxHeartbeats 4000000 in
set_option maxRecDepth 100000 in
theorem s11_readGoal (l : Launch) (dC : Nat → ClassId) (dI : Nat → Nat → Nat) (kB kI kJ kZ kC kS : ClassId) (sz : Nat) (m0 : Nat) (ra : Nat → Nat) (x0 : Nat → Int32) (q_told : Nat → Int32) (q_from : Nat → Int32) (q_to : Nat → Int32) (q_goal : Nat → Int32) (q_tape : Nat → Int32) (hX : fI lX11 hX11 x0) (hq_told : fI lTold hTold q_told) (hq_goal : fI (fun _ => 0) (fun _ => 11) q_goal) (hq_tape : fI (fun _ => 0) (fun _ => 255) q_tape) (hLT : ∀ j : Nat, (j : Int) < (q_told 1).toInt → (q_from j).toInt < (q_to j).toInt) (hLD : ∀ j : Nat, (j : Int) < (q_told 5).toInt → (q_from (20 + j)).toInt < (q_to (20 + j)).toInt) : Met l yX11_readGoal wsX11_readGoal rm_s11_readGoal (va_Pc [.ref m0] (fun U => U.heap.size = sz ∧ va_P (dC, dI) vwCl [(m0, .inr (11, oX11 ra x0)), (ra 2, .inl (kI, 8, .inl q_told)), (ra 10, .inl (kI, 6, .inl q_goal)), (ra 13, .inl (kI, 700, .inl q_tape))] U.heap ∧ kE dC dI kB kI kJ kZ kC kS U ∧ va_D (fun _ => True) [(m0, .inr (11, oX11 ra x0)), (ra 2, .inl (kI, 8, .inl q_told)), (ra 10, .inl (kI, 6, .inl q_goal)), (ra 13, .inl (kI, 700, .inl q_tape))])) (va_Qv (fun (_ : Unit) => True) (fun _ t => ∃ (x0' : Nat → Int32) (q_told' : Nat → Int32) (q_goal' : Nat → Int32), fI lX11 hX11 x0' ∧ fI lTold hTold q_told' ∧ fI (fun _ => 0) (fun _ => 11) q_goal' ∧ ((x0 2).toInt ≤ (x0' 2).toInt) ∧ (x0' 3 = x0 3) ∧ (∀ j : Nat, (j : Int) < (q_told' 1).toInt → (q_from j).toInt < (q_to j).toInt) ∧ (∀ j : Nat, (j : Int) < (q_told' 5).toInt → (q_from (20 + j)).toInt < (q_to (20 + j)).toInt) ∧ (x0' 1 = x0 1) ∧ va_P (dC, dI) vwCl [(m0, .inr (11, oX11 ra x0')), (ra 2, .inl (kI, 8, .inl q_told')), (ra 10, .inl (kI, 6, .inl q_goal')), (ra 13, .inl (kI, 700, .inl q_tape))] t.heap ∧ va_D (va_A [(m0, .inr (11, oX11 ra x0)), (ra 2, .inl (kI, 8, .inl q_told)), (ra 10, .inl (kI, 6, .inl q_goal)), (ra 13, .inl (kI, 700, .inl q_tape))] sz) [(m0, .inr (11, oX11 ra x0')), (ra 2, .inl (kI, 8, .inl q_told')), (ra 10, .inl (kI, 6, .inl q_goal')), (ra 13, .inl (kI, 700, .inl q_tape))]) (va_A [(m0, .inr (11, oX11 ra x0)), (ra 2, .inl (kI, 8, .inl q_told)), (ra 10, .inl (kI, 6, .inl q_goal)), (ra 13, .inl (kI, 700, .inl q_tape))] sz)) 0 0 (va_A [(m0, .inr (11, oX11 ra x0)), (ra 2, .inl (kI, 8, .inl q_told)), (ra 10, .inl (kI, 6, .inl q_goal)), (ra 13, .inl (kI, 700, .inl q_tape))] sz) := by
  refine Met.ofW (cc := cX11_readGoal) (maxL := 3) (ret := none) (by decide) rfl ?_
  intro p e s m args0 below meth c s₁ B hml hv
  obtain ⟨hargs, hsz, hP, hE, hD0⟩ := hv
  have hx := B.exec
  have hb := B.bytes
  have hr := B.returns
  have hts := atoms_spec (ws := wsX11_readGoal) B.pre
  have hown : s.vm.findClass RX11 = some m.cls := findClass_of_methodNamed B.named
  have hlocks := B.notSynchronized
  have hK := hE.1
  have hin11 : ∀ w ∈ wsX110, w ∈ wsX11_readGoal := fun _ h9 => List.mem_cons_of_mem _ (List.mem_append_right _ h9)
  have hw_0 := hts (.fieldLink RX11 34 "PathProberModel" "told" "[I") (List.mem_of_getElem? (i := 1) (by decide +kernel))
  have hw_1 := hts (.fieldLink RX11 184 "PathProberModel" "bad" "I") (List.mem_of_getElem? (i := 2) (by decide +kernel))
  have hw_2 := hts (.fieldLink RX11 58 "PathProberModel" "goal" "[I") (List.mem_of_getElem? (i := 3) (by decide +kernel))
  subst hsz
  have hD := hD0.self (sz := s.heap.size)
  generalize hAe : va_A [(m0, .inr (11, oX11 ra x0)), (ra 2, .inl (kI, 8, .inl q_told)), (ra 10, .inl (kI, 6, .inl q_goal)), (ra 13, .inl (kI, 700, .inl q_tape))] s.heap.size = A at hD ⊢
  have hA : ∀ q : Nat, s.heap.size ≤ q → A q := fun q h => by rw [← hAe]; exact Or.inr h
  have hS : va_S A s.heap s.heap [] := va_S.rf
  have hP : va_P (dC, dI) vwCl [(m0, .inr (11, oX11 ra x0)), (ra 2, .inl (kI, 8, .inl q_told)), (ra 10, .inl (kI, 6, .inl q_goal)), (ra 13, .inl (kI, 700, .inl q_tape))] s.heap := hP
  have hl := lv_entry ([.ref m0]) (n := 3) (Nat.le_of_ble_eq_true rfl)
  have hla : entryFrame m args0 3 = entryFrame m ([.ref m0] : List Value).toArray 3 := by rw [hargs]
  rw [hla, lg_entry_eq]
  generalize (lg_sl ([.ref m0]) ++ List.replicate (3 - (lg_sl ([.ref m0])).length) Slot.unset).toArray = ls at hl ⊢
  have hl : lv_has ls 3 [(0, .ref m0)] := hl
  have hJ35 : ∀ (n : Nat) (y35_0 : Nat → Int32) (v35_loc1 : Int32) (v35_loc2 : Int32) (H : Heap) (locs : List Loc) (ls : Array Slot), (2 - v35_loc2.toInt).toNat < n → fI lX11 hX11 y35_0 → iv 0 11 v35_loc1 → iv 0 2 v35_loc2 → iv 0 2 (q_told 6) → iv 0 0 (x0 8) → ((x0 2).toInt ≤ (y35_0 2).toInt) → (y35_0 3 = x0 3) → (y35_0 1 = x0 1) → va_P (dC, dI) vwCl [(m0, .inr (11, oX11 ra y35_0)), (ra 2, .inl (kI, 8, .inl q_told)), (ra 10, .inl (kI, 6, .inl q_goal)), (ra 13, .inl (kI, 700, .inl q_tape))] H → va_D A [(m0, .inr (11, oX11 ra y35_0)), (ra 2, .inl (kI, 8, .inl q_told)), (ra 10, .inl (kI, 6, .inl q_goal)), (ra 13, .inl (kI, 700, .inl q_tape))] → va_S A s.heap H locs → lv_has ls 3 [(0, .ref m0), (1, .int v35_loc1), (2, .int v35_loc2)] → W p l e (headSpec wsX11_readGoal rm_s11_readGoal).room s m args0 below meth c H locs (0) (0) (MQ below (va_Qv (fun (_ : Unit) => True) (fun _ t => ∃ (x0' : Nat → Int32) (q_told' : Nat → Int32) (q_goal' : Nat → Int32), fI lX11 hX11 x0' ∧ fI lTold hTold q_told' ∧ fI (fun _ => 0) (fun _ => 11) q_goal' ∧ ((x0 2).toInt ≤ (x0' 2).toInt) ∧ (x0' 3 = x0 3) ∧ (∀ j : Nat, (j : Int) < (q_told' 1).toInt → (q_from j).toInt < (q_to j).toInt) ∧ (∀ j : Nat, (j : Int) < (q_told' 5).toInt → (q_from (20 + j)).toInt < (q_to (20 + j)).toInt) ∧ (x0' 1 = x0 1) ∧ va_P (dC, dI) vwCl [(m0, .inr (11, oX11 ra x0')), (ra 2, .inl (kI, 8, .inl q_told')), (ra 10, .inl (kI, 6, .inl q_goal')), (ra 13, .inl (kI, 700, .inl q_tape))] t.heap ∧ va_D A [(m0, .inr (11, oX11 ra x0')), (ra 2, .inl (kI, 8, .inl q_told')), (ra 10, .inl (kI, 6, .inl q_goal')), (ra 13, .inl (kI, 700, .inl q_tape))]) A) args0 s 0 0 A) (F0 m 35 ls []) := by
    intro n
    induction n with
    | zero => intro y35_0 v35_loc1 v35_loc2 H locs ls hm35; exact absurd hm35 (Nat.not_lt_zero _)
    | succ n ih35 =>
      intro y35_0 v35_loc1 v35_loc2 H locs ls hm35 hI35_0 h35_2 h35_3 h35_4 h35_5 hat_35 hts_35 htp_35 hP hD hS hl
      have hJ70 : ∀ (y70_0 : Nat → Int32) (H : Heap) (locs : List Loc) (ls : Array Slot), fI lX11 hX11 y70_0 → iv 0 1 v35_loc2 → iv 1 2 (q_told 6) → ((x0 2).toInt ≤ (y70_0 2).toInt) → (y70_0 3 = x0 3) → (y70_0 1 = x0 1) → va_P (dC, dI) vwCl [(m0, .inr (11, oX11 ra y70_0)), (ra 2, .inl (kI, 8, .inl q_told)), (ra 10, .inl (kI, 6, .inl q_goal)), (ra 13, .inl (kI, 700, .inl q_tape))] H → va_D A [(m0, .inr (11, oX11 ra y70_0)), (ra 2, .inl (kI, 8, .inl q_told)), (ra 10, .inl (kI, 6, .inl q_goal)), (ra 13, .inl (kI, 700, .inl q_tape))] → va_S A s.heap H locs → lv_has ls 3 [(0, .ref m0), (1, .int v35_loc1), (2, .int v35_loc2)] → W p l e (headSpec wsX11_readGoal rm_s11_readGoal).room s m args0 below meth c H locs (0) (0) (MQ below (va_Qv (fun (_ : Unit) => True) (fun _ t => ∃ (x0' : Nat → Int32) (q_told' : Nat → Int32) (q_goal' : Nat → Int32), fI lX11 hX11 x0' ∧ fI lTold hTold q_told' ∧ fI (fun _ => 0) (fun _ => 11) q_goal' ∧ ((x0 2).toInt ≤ (x0' 2).toInt) ∧ (x0' 3 = x0 3) ∧ (∀ j : Nat, (j : Int) < (q_told' 1).toInt → (q_from j).toInt < (q_to j).toInt) ∧ (∀ j : Nat, (j : Int) < (q_told' 5).toInt → (q_from (20 + j)).toInt < (q_to (20 + j)).toInt) ∧ (x0' 1 = x0 1) ∧ va_P (dC, dI) vwCl [(m0, .inr (11, oX11 ra x0')), (ra 2, .inl (kI, 8, .inl q_told')), (ra 10, .inl (kI, 6, .inl q_goal')), (ra 13, .inl (kI, 700, .inl q_tape))] t.heap ∧ va_D A [(m0, .inr (11, oX11 ra x0')), (ra 2, .inl (kI, 8, .inl q_told')), (ra 10, .inl (kI, 6, .inl q_goal')), (ra 13, .inl (kI, 700, .inl q_tape))]) A) args0 s 0 0 A) (F0 m 70 ls []) := by
        intro y70_0 H locs ls hI70_0 h70_2 h70_3 hat_70 hts_70 htp_70 hP hD hS hl
        refine lv_iinc (v := v35_loc2 + Int32.ofInt 1) (lv' := [(2, .int (v35_loc2 + Int32.ofInt 1)), (0, .ref m0), (1, .int v35_loc1)]) hx hb dX11_readGoal_70 hl (k := 2) rfl (rfl) (by decide) rfl (fun ls hl => ?_)
        have b1 : iv 1 2 (v35_loc2 + Int32.ofInt 1) := iv_add h70_2 (iv_k (by decide) (by decide) : iv 1 1 (Int32.ofInt 1)) (by decide) (by decide) (by decide) (by decide)
        refine lv_goto (tgt := 35) hx hb dX11_readGoal_73 (by decide) ?_
        exact ih35 y70_0 v35_loc1 (v35_loc2 + Int32.ofInt 1) _ _ _ (ms_up (c := 1) (d := 0) h70_2 hm35 (by decide) (iv_inc 1 h70_2 (by decide) (by decide) (by decide) (by decide)) (by decide) rfl) (hI70_0) (h35_2) ((iv_w b1 (by decide) (by decide))) ((iv_w h70_3 (by decide) (by decide))) (h35_5) ((show (x0 2).toInt ≤ (y70_0 2).toInt from by omega)) ((show y70_0 3 = x0 3 from hts_70)) ((show y70_0 1 = x0 1 from htp_70)) (hP.sub [0, 1, 2, 3] rfl) (hD.sub [0, 1, 2, 3] (by decide) rfl) hS (lv_sub hl [1, 2, 0] rfl)
      refine lv_iload_n hx hb dX11_readGoal_35 rfl (lv_at hl 2 rfl) ?_
      refine lv_aload_n hx hb dX11_readGoal_36 rfl (lv_at hl 0 rfl) ?_
      refine va_get (D := (dC, dI)) (ci := 11) (v := .ref (ra 2)) (C := RX11) (T := TX11) (N := 61) hx hb hts hin11 hown hK hP 0 rfl rfl 3 (by decide) hw_0 (fun _ h9 => h9) rfl dX11_readGoal_37 ?_
      refine lv_bipush (v := 6) hx hb dX11_readGoal_40 (by decide) ?_
      refine va_iald hx hb hK hP 1 1 rfl rfl (vp_in_nI (n := 6) (by decide) (by decide)) dX11_readGoal_42 ?_
      refine W.eq (g2 := F0 m 43 ls [.int (q_told 6), .int v35_loc2]) rfl ?_
      refine lv_icmp_ge (tgt := 76) hx hb dX11_readGoal_43 (by decide) (fun c2 => ?_) (fun c2 => ?_)
      · refine lv_aload_n hx hb dX11_readGoal_76 rfl (lv_at hl 0 rfl) ?_
        refine va_get (D := (dC, dI)) (ci := 11) (v := .int (y35_0 8)) (C := RX11) (T := TX11) (N := 61) hx hb hts hin11 hown hK hP 0 rfl rfl 22 (by decide) hw_1 (fun _ h9 => h9) rfl dX11_readGoal_77 ?_
        refine lv_if_eq (tgt := 84) hx hb dX11_readGoal_80 (by decide) (fun c3 => ?_) (fun c3 => ?_)
        · have b4 : iv 0 0 (y35_0 8) := iv_eqL c3 (iv_k (by decide) (by decide) : iv 0 0 0)
          refine lv_aload_n hx hb dX11_readGoal_84 rfl (lv_at hl 0 rfl) ?_
          have hPc := hP.sub (ws' := [(m0, .inr (11, oX11 ra y35_0)), (ra 13, .inl (kI, 700, .inl q_tape))]) [0, 3] rfl
          have hDc := hD.sub (ws' := [(m0, .inr (11, oX11 ra y35_0)), (ra 13, .inl (kI, 700, .inl q_tape))]) [0, 3] (by decide) rfl
          have hFc := va_free (wc := [(m0, .inr (11, oX11 ra y35_0)), (ra 13, .inl (kI, 700, .inl q_tape))]) hD hS hA [0, 3] rfl
          refine va_callv (va_runV (As := []) (rest := []) ⟨hx, hb, hml, hown, hts⟩ (s11_stepOn l dC dI kB kI kJ kZ kC kS H.size m0 ra y35_0 q_tape (hI35_0) (hq_tape)) (cwV 0 hts gX11_readGoal_X11_stepOn rfl rfl rfl (by decide +kernel) ⟨Nat.le_of_ble_eq_true rfl, Nat.le_of_ble_eq_true rfl⟩) ⟨fun a U g mk q => by obtain ⟨q0, q1, qP, qE, qD⟩ := q; exact ⟨q0, q1, qP, kE_call qE, qD⟩, va_recv hK hP (ci := 11) (q0 := 0) rfl rfl, fun U hU hW => ⟨rfl, by rw [hU], by rw [hU]; exact hPc, kE_warm hW hE, hDc.weaken (fun _ _ _ _ => trivial)⟩⟩ rfl rfl hl.1 rfl (lv_room (Nat.le_of_ble_eq_true rfl)) dX11_readGoal_85 ⟨Nat.le_of_ble_eq_true rfl, Nat.le_of_ble_eq_true rfl⟩) hS (fun q _ h => hFc q h) hFc (fun u t H1 locs ht hvm w6 hB hz1 hk1 hS => ?_)
          obtain ⟨y7, hq8, hq9, hq10, hq11, hq12, hP1, hD1⟩ := hB
          rw [ht] at hP1
          try dsimp only at w6
          obtain ⟨hP, hD⟩ := va_join (wr := [(ra 2, .inl (kI, 8, .inl q_told)), (ra 10, .inl (kI, 6, .inl q_goal))]) (w1 := [(m0, .inr (11, oX11 ra y7)), (ra 13, .inl (kI, 700, .inl q_tape))]) hP hD [0, 3] [1, 2] rfl rfl (by decide) (by decide) hk1 hFc hP1 hD1
          generalize H1 = H at hP hS ⊢
          have hP : va_P (dC, dI) vwCl [(ra 2, .inl (kI, 8, .inl q_told)), (ra 10, .inl (kI, 6, .inl q_goal)), (m0, .inr (11, oX11 ra y7)), (ra 13, .inl (kI, 700, .inl q_tape))] H := hP
          have hD : va_D A [(ra 2, .inl (kI, 8, .inl q_told)), (ra 10, .inl (kI, 6, .inl q_goal)), (m0, .inr (11, oX11 ra y7)), (ra 13, .inl (kI, 700, .inl q_tape))] := hD
          refine W.widen (k := 0) (n := 0) (Nat.le_of_ble_eq_true rfl) (Nat.le_of_ble_eq_true rfl) ?_
          refine lv_aload_n hx hb dX11_readGoal_88 rfl (lv_at hl 0 rfl) ?_
          refine va_get (D := (dC, dI)) (ci := 11) (v := .ref (ra 10)) (C := RX11) (T := TX11) (N := 61) hx hb hts hin11 hown hK hP 2 rfl rfl 11 (by decide) hw_2 (fun _ h9 => h9) rfl dX11_readGoal_89 ?_
          refine lv_iconst (v := 3) hx hb dX11_readGoal_92 (by decide) ?_
          refine lv_aload_n hx hb dX11_readGoal_93 rfl (lv_at hl 0 rfl) ?_
          refine va_get (D := (dC, dI)) (ci := 11) (v := .ref (ra 2)) (C := RX11) (T := TX11) (N := 61) hx hb hts hin11 hown hK hP 2 rfl rfl 3 (by decide) hw_0 (fun _ h9 => h9) rfl dX11_readGoal_94 ?_
          refine lv_bipush (v := 6) hx hb dX11_readGoal_97 (by decide) ?_
          refine va_iald hx hb hK hP 0 1 rfl rfl (vp_in_nI (n := 6) (by decide) (by decide)) dX11_readGoal_99 ?_
          refine W.eq (g2 := F0 m 100 ls [.int (q_told 6), .int 3, .ref (ra 10)]) rfl ?_
          refine lv_iadd hx hb dX11_readGoal_100 ?_
          refine iv_top (a := 3) (b := 5) (iv_add (iv_k (by decide) (by decide) : iv 3 3 3) h35_4 (by decide) (by decide) (by decide) (by decide)) (fun z13 b14 => ?_)
          refine lv_iload_n hx hb dX11_readGoal_101 rfl (lv_at hl 1 rfl) ?_
          refine va_iast hx hb hK hP hD hS 1 1 rfl rfl (iv_in b14 (by decide) (by decide)) dX11_readGoal_102 (fun H locs hP hD hS => ?_)
          have hP : va_P (dC, dI) vwCl [(ra 2, .inl (kI, 8, .inl q_told)), (ra 10, .inl (kI, 6, .inl (upd q_goal z13.toNatClampNeg v35_loc1))), (m0, .inr (11, oX11 ra y7)), (ra 13, .inl (kI, 700, .inl q_tape))] H := hP
          have hD : va_D A [(ra 2, .inl (kI, 8, .inl q_told)), (ra 10, .inl (kI, 6, .inl (upd q_goal z13.toNatClampNeg v35_loc1))), (m0, .inr (11, oX11 ra y7)), (ra 13, .inl (kI, 700, .inl q_tape))] := hD
          have hf16 : fI (fun _ => 0) (fun _ => 11) (upd q_goal z13.toNatClampNeg v35_loc1) := fI_u hq_goal (k := z13.toNatClampNeg) (h35_2)
          generalize (upd q_goal z13.toNatClampNeg v35_loc1) = f15 at hP hD hf16
          refine lv_aload_n hx hb dX11_readGoal_103 rfl (lv_at hl 0 rfl) ?_
          refine va_get (D := (dC, dI)) (ci := 11) (v := .ref (ra 2)) (C := RX11) (T := TX11) (N := 61) hx hb hts hin11 hown hK hP 2 rfl rfl 3 (by decide) hw_0 (fun _ h9 => h9) rfl dX11_readGoal_104 ?_
          refine lv_bipush (v := 6) hx hb dX11_readGoal_107 (by decide) ?_
          refine lv_dup2_11 hx hb dX11_readGoal_109 rfl rfl ?_
          refine va_iald hx hb hK hP 0 1 rfl rfl (vp_in_nI (n := 6) (by decide) (by decide)) dX11_readGoal_110 ?_
          refine W.eq (g2 := F0 m 111 ls [.int (q_told 6), .int 6, .ref (ra 2)]) rfl ?_
          refine lv_iconst (v := 1) hx hb dX11_readGoal_111 (by decide) ?_
          refine lv_iadd hx hb dX11_readGoal_112 ?_
          refine iv_top (a := 1) (b := 3) (iv_add h35_4 (iv_k (by decide) (by decide) : iv 1 1 1) (by decide) (by decide) (by decide) (by decide)) (fun z17 b18 => ?_)
          refine va_iast hx hb hK hP hD hS 0 1 rfl rfl (vp_in_nI (n := 6) (by decide) (by decide)) dX11_readGoal_113 (fun H locs hP hD hS => ?_)
          have hP : va_P (dC, dI) vwCl [(ra 2, .inl (kI, 8, .inl (upd q_told 6 z17))), (ra 10, .inl (kI, 6, .inl f15)), (m0, .inr (11, oX11 ra y7)), (ra 13, .inl (kI, 700, .inl q_tape))] H := hP
          have hD : va_D A [(ra 2, .inl (kI, 8, .inl (upd q_told 6 z17))), (ra 10, .inl (kI, 6, .inl f15)), (m0, .inr (11, oX11 ra y7)), (ra 13, .inl (kI, 700, .inl q_tape))] := hD
          have hP9 := hP.sub (ws' := [(m0, .inr (11, oX11 ra y7)), (ra 2, .inl (kI, 8, .inl (upd q_told 6 z17))), (ra 10, .inl (kI, 6, .inl f15)), (ra 13, .inl (kI, 700, .inl q_tape))]) [2, 0, 1, 3] rfl
          have hD9 := hD.sub (ws' := [(m0, .inr (11, oX11 ra y7)), (ra 2, .inl (kI, 8, .inl (upd q_told 6 z17))), (ra 10, .inl (kI, 6, .inl f15)), (ra 13, .inl (kI, 700, .inl q_tape))]) [2, 0, 1, 3] (by decide) rfl
          exact W.vret hx hb hr (fun t ht hW => ⟨⟨(), rfl, trivial, y7, upd q_told 6 z17, f15, hq8, (fI_u hq_told (k := 6) ((iv_w b18 (by decide) (by decide)))), hf16, (show (x0 2).toInt ≤ (y7 2).toInt from by omega), (show y7 3 = x0 3 from hq10.trans (hts_35)), (show ∀ j : Nat, (j : Int) < (q_told 1).toInt → (q_from j).toInt < (q_to j).toInt from hLT), (show ∀ j : Nat, (j : Int) < (q_told 5).toInt → (q_from (20 + j)).toInt < (q_to (20 + j)).toInt from hLD), (show y7 1 = x0 1 from hq12.trans (htp_35)), by rw [ht]; exact hP9, hD9⟩, hS.F ht⟩) hS.2.2 dX11_readGoal_114
        · have b19 : iv 1 5 (y35_0 8) := iv_neLo c3 (hI35_0 8 : iv 0 5 (y35_0 8)) (iv_k (by decide) (by decide) : iv 0 0 0) (by decide) (by decide)
          have hP9 := hP.sub (ws' := [(m0, .inr (11, oX11 ra y35_0)), (ra 2, .inl (kI, 8, .inl q_told)), (ra 10, .inl (kI, 6, .inl q_goal)), (ra 13, .inl (kI, 700, .inl q_tape))]) [0, 1, 2, 3] rfl
          have hD9 := hD.sub (ws' := [(m0, .inr (11, oX11 ra y35_0)), (ra 2, .inl (kI, 8, .inl q_told)), (ra 10, .inl (kI, 6, .inl q_goal)), (ra 13, .inl (kI, 700, .inl q_tape))]) [0, 1, 2, 3] (by decide) rfl
          exact W.vret hx hb hr (fun t ht hW => ⟨⟨(), rfl, trivial, y35_0, q_told, q_goal, hI35_0, hq_told, hq_goal, (show (x0 2).toInt ≤ (y35_0 2).toInt from by omega), (show y35_0 3 = x0 3 from hts_35), (show ∀ j : Nat, (j : Int) < (q_told 1).toInt → (q_from j).toInt < (q_to j).toInt from hLT), (show ∀ j : Nat, (j : Int) < (q_told 5).toInt → (q_from (20 + j)).toInt < (q_to (20 + j)).toInt from hLD), (show y35_0 1 = x0 1 from htp_35), by rw [ht]; exact hP9, hD9⟩, hS.F ht⟩) hS.2.2 dX11_readGoal_83
      · have b20 : iv 0 1 v35_loc2 := iv_ltL (Int32.not_le.mp c2) h35_3 h35_4 (by decide) (by decide)
        have b21 : iv 1 2 (q_told 6) := iv_ltR (Int32.not_le.mp c2) h35_3 h35_4 (by decide) (by decide)
        refine lv_aload_n hx hb dX11_readGoal_46 rfl (lv_at hl 0 rfl) ?_
        refine va_get (D := (dC, dI)) (ci := 11) (v := .int (y35_0 8)) (C := RX11) (T := TX11) (N := 61) hx hb hts hin11 hown hK hP 0 rfl rfl 22 (by decide) hw_1 (fun _ h9 => h9) rfl dX11_readGoal_47 ?_
        refine lv_if_ne (tgt := 70) hx hb dX11_readGoal_50 (by decide) (fun c22 => ?_) (fun c22 => ?_)
        · have b23 : iv 1 5 (y35_0 8) := iv_neLo c22 (hI35_0 8 : iv 0 5 (y35_0 8)) (iv_k (by decide) (by decide) : iv 0 0 0) (by decide) (by decide)
          exact hJ70 y35_0 _ _ _ (hI35_0) (b20) (b21) ((show (x0 2).toInt ≤ (y35_0 2).toInt from by omega)) ((show y35_0 3 = x0 3 from hts_35)) ((show y35_0 1 = x0 1 from htp_35)) (hP.sub [0, 1, 2, 3] rfl) (hD.sub [0, 1, 2, 3] (by decide) rfl) hS (lv_sub hl [0, 1, 2] rfl)
        · have b24 : iv 0 0 (y35_0 8) := iv_eqL c22 (iv_k (by decide) (by decide) : iv 0 0 0)
          refine lv_aload_n hx hb dX11_readGoal_53 rfl (lv_at hl 0 rfl) ?_
          refine va_get (D := (dC, dI)) (ci := 11) (v := .ref (ra 10)) (C := RX11) (T := TX11) (N := 61) hx hb hts hin11 hown hK hP 0 rfl rfl 11 (by decide) hw_2 (fun _ h9 => h9) rfl dX11_readGoal_54 ?_
          refine lv_iconst (v := 3) hx hb dX11_readGoal_57 (by decide) ?_
          refine lv_iload_n hx hb dX11_readGoal_58 rfl (lv_at hl 2 rfl) ?_
          refine lv_iadd hx hb dX11_readGoal_59 ?_
          refine iv_top (a := 3) (b := 4) (iv_add (iv_k (by decide) (by decide) : iv 3 3 3) b20 (by decide) (by decide) (by decide) (by decide)) (fun z25 b26 => ?_)
          refine va_iald hx hb hK hP 2 1 rfl rfl (iv_in b26 (by decide) (by decide)) dX11_readGoal_60 ?_
          refine iv_top (a := 0) (b := 11) (hq_goal _) (fun z27 b28 => ?_)
          refine lv_iload_n hx hb dX11_readGoal_61 rfl (lv_at hl 1 rfl) ?_
          refine lv_icmp_ne (tgt := 70) hx hb dX11_readGoal_62 (by decide) (fun c29 => ?_) (fun c29 => ?_)
          · exact hJ70 y35_0 _ _ _ (hI35_0) (b20) (b21) ((show (x0 2).toInt ≤ (y35_0 2).toInt from by omega)) ((show y35_0 3 = x0 3 from hts_35)) ((show y35_0 1 = x0 1 from htp_35)) (hP.sub [0, 1, 2, 3] rfl) (hD.sub [0, 1, 2, 3] (by decide) rfl) hS (lv_sub hl [0, 1, 2] rfl)
          · refine lv_aload_n hx hb dX11_readGoal_65 rfl (lv_at hl 0 rfl) ?_
            refine lv_iconst (v := 4) hx hb dX11_readGoal_66 (by decide) ?_
            have hPc := hP.sub (ws' := [(m0, .inr (11, oX11 ra y35_0))]) [0] rfl
            have hDc := hD.sub (ws' := [(m0, .inr (11, oX11 ra y35_0))]) [0] (by decide) rfl
            have hFc := va_free (wc := [(m0, .inr (11, oX11 ra y35_0))]) hD hS hA [0] rfl
            refine va_callv (va_runV (As := [.int 4]) (rest := []) ⟨hx, hb, hml, hown, hts⟩ (s11_wrong l dC dI kB kI kJ kZ kC kS H.size m0 ra y35_0 4 (hI35_0) ((iv_w (iv_k (by decide) (by decide) : iv 4 4 4) (by decide) (by decide)))) (cwV 1 hts gX11_readGoal_X11_wrong rfl rfl rfl (by decide +kernel) ⟨Nat.le_of_ble_eq_true rfl, Nat.le_of_ble_eq_true rfl⟩) ⟨fun a U g mk q => by obtain ⟨q0, q1, qP, qE, qD⟩ := q; exact ⟨q0, q1, qP, kE_call qE, qD⟩, va_recv hK hP (ci := 11) (q0 := 0) rfl rfl, fun U hU hW => ⟨rfl, by rw [hU], by rw [hU]; exact hPc, kE_warm hW hE, hDc.weaken (fun _ _ _ _ => trivial)⟩⟩ rfl rfl hl.1 rfl (lv_room (Nat.le_of_ble_eq_true rfl)) dX11_readGoal_67 ⟨Nat.le_of_ble_eq_true rfl, Nat.le_of_ble_eq_true rfl⟩) hS (fun q _ h => hFc q h) hFc (fun u t H1 locs ht hvm w31 hB hz1 hk1 hS => ?_)
            obtain ⟨y32, hq33, hq34, hq35, hq36, hq37, hP1, hD1⟩ := hB
            rw [ht] at hP1
            try dsimp only at w31
            obtain ⟨hP, hD⟩ := va_join (wr := [(ra 2, .inl (kI, 8, .inl q_told)), (ra 10, .inl (kI, 6, .inl q_goal)), (ra 13, .inl (kI, 700, .inl q_tape))]) (w1 := [(m0, .inr (11, oX11 ra y32))]) hP hD [0] [1, 2, 3] rfl rfl (by decide) (by decide) hk1 hFc hP1 hD1
            generalize H1 = H at hP hS ⊢
            have hP : va_P (dC, dI) vwCl [(ra 2, .inl (kI, 8, .inl q_told)), (ra 10, .inl (kI, 6, .inl q_goal)), (ra 13, .inl (kI, 700, .inl q_tape)), (m0, .inr (11, oX11 ra y32))] H := hP
            have hD : va_D A [(ra 2, .inl (kI, 8, .inl q_told)), (ra 10, .inl (kI, 6, .inl q_goal)), (ra 13, .inl (kI, 700, .inl q_tape)), (m0, .inr (11, oX11 ra y32))] := hD
            refine W.widen (k := 0) (n := 0) (Nat.le_of_ble_eq_true rfl) (Nat.le_of_ble_eq_true rfl) ?_
            exact hJ70 y32 _ _ _ (hq33) (b20) (b21) ((show (x0 2).toInt ≤ (y32 2).toInt from by omega)) ((show y32 3 = x0 3 from hq36.trans (hts_35))) ((show y32 1 = x0 1 from hq37.trans (htp_35))) (hP.sub [3, 0, 1, 2] rfl) (hD.sub [3, 0, 1, 2] (by decide) rfl) hS (lv_sub hl [0, 1, 2] rfl)
  refine lv_aload_n hx hb dX11_readGoal_0 rfl (lv_at hl 0 rfl) ?_
  refine va_get (D := (dC, dI)) (ci := 11) (v := .ref (ra 2)) (C := RX11) (T := TX11) (N := 61) hx hb hts hin11 hown hK hP 0 rfl rfl 3 (by decide) hw_0 (fun _ h9 => h9) rfl dX11_readGoal_1 ?_
  refine lv_bipush (v := 6) hx hb dX11_readGoal_4 (by decide) ?_
  refine va_iald hx hb hK hP 1 1 rfl rfl (vp_in_nI (n := 6) (by decide) (by decide)) dX11_readGoal_6 ?_
  refine W.eq (g2 := F0 m 7 ls [.int (q_told 6)]) rfl ?_
  refine lv_iconst (v := 3) hx hb dX11_readGoal_7 (by decide) ?_
  refine lv_icmp_ne (tgt := 16) hx hb dX11_readGoal_8 (by decide) (fun c38 => ?_) (fun c38 => ?_)
  · have b39 : iv 0 2 (q_told 6) := iv_neHi c38 (hq_told 6 : iv 0 3 (q_told 6)) (iv_k (by decide) (by decide) : iv 3 3 3) (by decide) (by decide)
    refine lv_aload_n hx hb dX11_readGoal_16 rfl (lv_at hl 0 rfl) ?_
    refine va_get (D := (dC, dI)) (ci := 11) (v := .int (x0 8)) (C := RX11) (T := TX11) (N := 61) hx hb hts hin11 hown hK hP 0 rfl rfl 22 (by decide) hw_1 (fun _ h9 => h9) rfl dX11_readGoal_17 ?_
    refine lv_if_eq (tgt := 24) hx hb dX11_readGoal_20 (by decide) (fun c40 => ?_) (fun c40 => ?_)
    · have b41 : iv 0 0 (x0 8) := iv_eqL c40 (iv_k (by decide) (by decide) : iv 0 0 0)
      refine lv_aload_n hx hb dX11_readGoal_24 rfl (lv_at hl 0 rfl) ?_
      have hPc := hP.sub (ws' := [(m0, .inr (11, oX11 ra x0)), (ra 13, .inl (kI, 700, .inl q_tape))]) [0, 3] rfl
      have hDc := hD.sub (ws' := [(m0, .inr (11, oX11 ra x0)), (ra 13, .inl (kI, 700, .inl q_tape))]) [0, 3] (by decide) rfl
      have hFc := va_free (wc := [(m0, .inr (11, oX11 ra x0)), (ra 13, .inl (kI, 700, .inl q_tape))]) hD hS hA [0, 3] rfl
      refine va_callv (va_runV (As := []) (rest := []) ⟨hx, hb, hml, hown, hts⟩ (s11_stepOn l dC dI kB kI kJ kZ kC kS s.heap.size m0 ra x0 q_tape (hX) (hq_tape)) (cwV 0 hts gX11_readGoal_X11_stepOn rfl rfl rfl (by decide +kernel) ⟨Nat.le_of_ble_eq_true rfl, Nat.le_of_ble_eq_true rfl⟩) ⟨fun a U g mk q => by obtain ⟨q0, q1, qP, qE, qD⟩ := q; exact ⟨q0, q1, qP, kE_call qE, qD⟩, va_recv hK hP (ci := 11) (q0 := 0) rfl rfl, fun U hU hW => ⟨rfl, by rw [hU], by rw [hU]; exact hPc, kE_warm hW hE, hDc.weaken (fun _ _ _ _ => trivial)⟩⟩ rfl rfl hl.1 rfl (lv_room (Nat.le_of_ble_eq_true rfl)) dX11_readGoal_25 ⟨Nat.le_of_ble_eq_true rfl, Nat.le_of_ble_eq_true rfl⟩) hS (fun q _ h => hFc q h) hFc (fun u t H1 locs ht hvm w43 hB hz1 hk1 hS => ?_)
      obtain ⟨y44, hq45, hq46, hq47, hq48, hq49, hP1, hD1⟩ := hB
      rw [ht] at hP1
      try dsimp only at w43
      obtain ⟨hP, hD⟩ := va_join (wr := [(ra 2, .inl (kI, 8, .inl q_told)), (ra 10, .inl (kI, 6, .inl q_goal))]) (w1 := [(m0, .inr (11, oX11 ra y44)), (ra 13, .inl (kI, 700, .inl q_tape))]) hP hD [0, 3] [1, 2] rfl rfl (by decide) (by decide) hk1 hFc hP1 hD1
      generalize H1 = H at hP hS ⊢
      have hP : va_P (dC, dI) vwCl [(ra 2, .inl (kI, 8, .inl q_told)), (ra 10, .inl (kI, 6, .inl q_goal)), (m0, .inr (11, oX11 ra y44)), (ra 13, .inl (kI, 700, .inl q_tape))] H := hP
      have hD : va_D A [(ra 2, .inl (kI, 8, .inl q_told)), (ra 10, .inl (kI, 6, .inl q_goal)), (m0, .inr (11, oX11 ra y44)), (ra 13, .inl (kI, 700, .inl q_tape))] := hD
      refine W.widen (k := 0) (n := 0) (Nat.le_of_ble_eq_true rfl) (Nat.le_of_ble_eq_true rfl) ?_
      refine lv_aload_n hx hb dX11_readGoal_28 rfl (lv_at hl 0 rfl) ?_
      have hPc := hP.sub (ws' := [(m0, .inr (11, oX11 ra y44)), (ra 2, .inl (kI, 8, .inl q_told))]) [2, 0] rfl
      have hDc := hD.sub (ws' := [(m0, .inr (11, oX11 ra y44)), (ra 2, .inl (kI, 8, .inl q_told))]) [2, 0] (by decide) rfl
      have hFc := va_free (wc := [(m0, .inr (11, oX11 ra y44)), (ra 2, .inl (kI, 8, .inl q_told))]) hD hS hA [2, 0] rfl
      refine va_calli (va_runV (As := []) (rest := []) ⟨hx, hb, hml, hown, hts⟩ (s11_routerNow l dC dI kB kI kJ kZ kC kS H.size m0 ra y44 q_told (hq45) (hq_told)) (cwV 0 hts gX11_readGoal_X11_routerNow rfl rfl rfl (by decide +kernel) ⟨Nat.le_of_ble_eq_true rfl, Nat.le_of_ble_eq_true rfl⟩) ⟨fun a U g mk q => by obtain ⟨q0, q1, qP, qE, qD⟩ := q; exact ⟨q0, q1, qP, kE_call qE, qD⟩, va_recv hK hP (ci := 11) (q0 := 2) rfl rfl, fun U hU hW => ⟨rfl, by rw [hU], by rw [hU]; exact hPc, kE_warm hW hE, hDc.weaken (fun _ _ _ _ => trivial)⟩⟩ rfl rfl hl.1 rfl (lv_room (Nat.le_of_ble_eq_true rfl)) dX11_readGoal_29 ⟨Nat.le_of_ble_eq_true rfl, Nat.le_of_ble_eq_true rfl⟩) hS (fun q _ h => hFc q h) hFc (fun r50 u t H1 locs ht hvm w51 hB hz1 hk1 hS => ?_)
      obtain ⟨y52, hq53, hq54, hq55, hq56, hP1, hD1⟩ := hB
      rw [ht] at hP1
      try dsimp only at w51
      obtain ⟨hP, hD⟩ := va_join (wr := [(ra 10, .inl (kI, 6, .inl q_goal)), (ra 13, .inl (kI, 700, .inl q_tape))]) (w1 := [(m0, .inr (11, oX11 ra y52)), (ra 2, .inl (kI, 8, .inl q_told))]) hP hD [2, 0] [1, 3] rfl rfl (by decide) (by decide) hk1 hFc hP1 hD1
      generalize H1 = H at hP hS ⊢
      have hP : va_P (dC, dI) vwCl [(ra 10, .inl (kI, 6, .inl q_goal)), (ra 13, .inl (kI, 700, .inl q_tape)), (m0, .inr (11, oX11 ra y52)), (ra 2, .inl (kI, 8, .inl q_told))] H := hP
      have hD : va_D A [(ra 10, .inl (kI, 6, .inl q_goal)), (ra 13, .inl (kI, 700, .inl q_tape)), (m0, .inr (11, oX11 ra y52)), (ra 2, .inl (kI, 8, .inl q_told))] := hD
      refine W.widen (k := 0) (n := 0) (Nat.le_of_ble_eq_true rfl) (Nat.le_of_ble_eq_true rfl) ?_
      refine lv_istore_n (lv' := [(1, .int r50), (0, .ref m0)]) hx hb dX11_readGoal_32 rfl hl (by decide) rfl (fun ls hl => ?_)
      refine lv_iconst (v := 0) hx hb dX11_readGoal_33 (by decide) ?_
      refine lv_istore_n (lv' := [(2, .int 0), (1, .int r50), (0, .ref m0)]) hx hb dX11_readGoal_34 rfl hl (by decide) rfl (fun ls hl => ?_)
      exact hJ35 _ y52 r50 0 _ _ _ (Nat.lt_succ_self _) (hq53) (w51) ((iv_w (iv_k (by decide) (by decide) : iv 0 0 0) (by decide) (by decide))) (b39) (b41) ((show (x0 2).toInt ≤ (y52 2).toInt from by omega)) ((show y52 3 = x0 3 from hq55.trans (hq47))) ((show y52 1 = x0 1 from hq56.trans (hq49))) (hP.sub [2, 3, 0, 1] rfl) (hD.sub [2, 3, 0, 1] (by decide) rfl) hS (lv_sub hl [2, 1, 0] rfl)
    · have b57 : iv 1 5 (x0 8) := iv_neLo c40 (hX 8 : iv 0 5 (x0 8)) (iv_k (by decide) (by decide) : iv 0 0 0) (by decide) (by decide)
      have hP9 := hP.sub (ws' := [(m0, .inr (11, oX11 ra x0)), (ra 2, .inl (kI, 8, .inl q_told)), (ra 10, .inl (kI, 6, .inl q_goal)), (ra 13, .inl (kI, 700, .inl q_tape))]) [0, 1, 2, 3] rfl
      have hD9 := hD.sub (ws' := [(m0, .inr (11, oX11 ra x0)), (ra 2, .inl (kI, 8, .inl q_told)), (ra 10, .inl (kI, 6, .inl q_goal)), (ra 13, .inl (kI, 700, .inl q_tape))]) [0, 1, 2, 3] (by decide) rfl
      exact W.vret hx hb hr (fun t ht hW => ⟨⟨(), rfl, trivial, x0, q_told, q_goal, hX, hq_told, hq_goal, (show (x0 2).toInt ≤ (x0 2).toInt from by omega), (show x0 3 = x0 3 from rfl), (show ∀ j : Nat, (j : Int) < (q_told 1).toInt → (q_from j).toInt < (q_to j).toInt from hLT), (show ∀ j : Nat, (j : Int) < (q_told 5).toInt → (q_from (20 + j)).toInt < (q_to (20 + j)).toInt from hLD), (show x0 1 = x0 1 from rfl), by rw [ht]; exact hP9, hD9⟩, hS.F ht⟩) hS.2.2 dX11_readGoal_23
  · have b58 : iv 3 3 (q_told 6) := iv_eqL c38 (iv_k (by decide) (by decide) : iv 3 3 3)
    refine lv_aload_n hx hb dX11_readGoal_11 rfl (lv_at hl 0 rfl) ?_
    refine lv_iconst (v := 2) hx hb dX11_readGoal_12 (by decide) ?_
    have hPc := hP.sub (ws' := [(m0, .inr (11, oX11 ra x0))]) [0] rfl
    have hDc := hD.sub (ws' := [(m0, .inr (11, oX11 ra x0))]) [0] (by decide) rfl
    have hFc := va_free (wc := [(m0, .inr (11, oX11 ra x0))]) hD hS hA [0] rfl
    refine va_callv (va_runV (As := [.int 2]) (rest := []) ⟨hx, hb, hml, hown, hts⟩ (s11_wrong l dC dI kB kI kJ kZ kC kS s.heap.size m0 ra x0 2 (hX) ((iv_w (iv_k (by decide) (by decide) : iv 2 2 2) (by decide) (by decide)))) (cwV 1 hts gX11_readGoal_X11_wrong rfl rfl rfl (by decide +kernel) ⟨Nat.le_of_ble_eq_true rfl, Nat.le_of_ble_eq_true rfl⟩) ⟨fun a U g mk q => by obtain ⟨q0, q1, qP, qE, qD⟩ := q; exact ⟨q0, q1, qP, kE_call qE, qD⟩, va_recv hK hP (ci := 11) (q0 := 0) rfl rfl, fun U hU hW => ⟨rfl, by rw [hU], by rw [hU]; exact hPc, kE_warm hW hE, hDc.weaken (fun _ _ _ _ => trivial)⟩⟩ rfl rfl hl.1 rfl (lv_room (Nat.le_of_ble_eq_true rfl)) dX11_readGoal_13 ⟨Nat.le_of_ble_eq_true rfl, Nat.le_of_ble_eq_true rfl⟩) hS (fun q _ h => hFc q h) hFc (fun u t H1 locs ht hvm w60 hB hz1 hk1 hS => ?_)
    obtain ⟨y61, hq62, hq63, hq64, hq65, hq66, hP1, hD1⟩ := hB
    rw [ht] at hP1
    try dsimp only at w60
    obtain ⟨hP, hD⟩ := va_join (wr := [(ra 2, .inl (kI, 8, .inl q_told)), (ra 10, .inl (kI, 6, .inl q_goal)), (ra 13, .inl (kI, 700, .inl q_tape))]) (w1 := [(m0, .inr (11, oX11 ra y61))]) hP hD [0] [1, 2, 3] rfl rfl (by decide) (by decide) hk1 hFc hP1 hD1
    generalize H1 = H at hP hS ⊢
    have hP : va_P (dC, dI) vwCl [(ra 2, .inl (kI, 8, .inl q_told)), (ra 10, .inl (kI, 6, .inl q_goal)), (ra 13, .inl (kI, 700, .inl q_tape)), (m0, .inr (11, oX11 ra y61))] H := hP
    have hD : va_D A [(ra 2, .inl (kI, 8, .inl q_told)), (ra 10, .inl (kI, 6, .inl q_goal)), (ra 13, .inl (kI, 700, .inl q_tape)), (m0, .inr (11, oX11 ra y61))] := hD
    refine W.widen (k := 0) (n := 0) (Nat.le_of_ble_eq_true rfl) (Nat.le_of_ble_eq_true rfl) ?_
    refine lv_aload_n hx hb dX11_readGoal_16 rfl (lv_at hl 0 rfl) ?_
    refine va_get (D := (dC, dI)) (ci := 11) (v := .int (y61 8)) (C := RX11) (T := TX11) (N := 61) hx hb hts hin11 hown hK hP 3 rfl rfl 22 (by decide) hw_1 (fun _ h9 => h9) rfl dX11_readGoal_17 ?_
    refine lv_if_eq (tgt := 24) hx hb dX11_readGoal_20 (by decide) (fun c9 => absurd c9 (iv_ne hq63 (iv_k (by decide) (by decide) : iv 0 0 0) (by decide))) (fun _ => ?_)
    have hP9 := hP.sub (ws' := [(m0, .inr (11, oX11 ra y61)), (ra 2, .inl (kI, 8, .inl q_told)), (ra 10, .inl (kI, 6, .inl q_goal)), (ra 13, .inl (kI, 700, .inl q_tape))]) [3, 0, 1, 2] rfl
    have hD9 := hD.sub (ws' := [(m0, .inr (11, oX11 ra y61)), (ra 2, .inl (kI, 8, .inl q_told)), (ra 10, .inl (kI, 6, .inl q_goal)), (ra 13, .inl (kI, 700, .inl q_tape))]) [3, 0, 1, 2] (by decide) rfl
    exact W.vret hx hb hr (fun t ht hW => ⟨⟨(), rfl, trivial, y61, q_told, q_goal, hq62, hq_told, hq_goal, (show (x0 2).toInt ≤ (y61 2).toInt from by omega), (show y61 3 = x0 3 from hq65), (show ∀ j : Nat, (j : Int) < (q_told 1).toInt → (q_from j).toInt < (q_to j).toInt from hLT), (show ∀ j : Nat, (j : Int) < (q_told 5).toInt → (q_from (20 + j)).toInt < (q_to (20 + j)).toInt from hLD), (show y61 1 = x0 1 from hq66), by rw [ht]; exact hP9, hD9⟩, hS.F ht⟩) hS.2.2 dX11_readGoal_23
