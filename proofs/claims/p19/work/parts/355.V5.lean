def rm_s11_isGoal_hi : Room := { frames := 1, cells := 0, slots := 0, locals := 22 }
set_option maxHeartbeats 4000000 in
set_option maxRecDepth 100000 in
theorem s11_isGoal_hi (l : Launch) (dC : Nat → ClassId) (dI : Nat → Nat → Nat) (kB kI kJ kZ kC kS : ClassId) (sz : Nat) (m0 : Nat) (ra : Nat → Nat) (x0 : Nat → Int32) (q_told : Nat → Int32) (p0 : Int32) (hX : fI lX11 hX11 x0) (hq_told : fI lTold hTold q_told) (hc : q_told 2 ≤ p0) : Met l yX11_isGoal wsX11_isGoal rm_s11_isGoal_hi (va_Pc [.ref m0, .int p0] (fun U => U.heap.size = sz ∧ va_P (dC, dI) vwCl [(m0, .inr (11, oX11 ra x0)), (ra 2, .inl (kI, 8, .inl q_told))] U.heap ∧ kE dC dI kB kI kJ kZ kC kS U ∧ va_D (fun _ => True) [(m0, .inr (11, oX11 ra x0)), (ra 2, .inl (kI, 8, .inl q_told))])) (va_Qi (fun (r : Int32) (_ : Unit) => iv 0 0 r) (fun _ t => va_P (dC, dI) vwCl [(m0, .inr (11, oX11 ra x0)), (ra 2, .inl (kI, 8, .inl q_told))] t.heap ∧ va_D (va_A [(m0, .inr (11, oX11 ra x0)), (ra 2, .inl (kI, 8, .inl q_told))] sz) [(m0, .inr (11, oX11 ra x0)), (ra 2, .inl (kI, 8, .inl q_told))]) (va_A [(m0, .inr (11, oX11 ra x0)), (ra 2, .inl (kI, 8, .inl q_told))] sz)) 0 0 (va_A [(m0, .inr (11, oX11 ra x0)), (ra 2, .inl (kI, 8, .inl q_told))] sz) := by
  refine Met.ofW (cc := cX11_isGoal) (maxL := 2) (ret := (some .boolean)) (by decide) rfl ?_
  intro p e s m args0 below meth c s₁ B hml hv
  obtain ⟨hargs, hsz, hP, hE, hD0⟩ := hv
  have hx := B.exec
  have hb := B.bytes
  have hr := B.returns
  have hts := atoms_spec (ws := wsX11_isGoal) B.pre
  have hown : s.vm.findClass RX11 = some m.cls := findClass_of_methodNamed B.named
  have hlocks := B.notSynchronized
  have hK := hE.1
  have hin11 : ∀ w ∈ wsX110, w ∈ wsX11_isGoal := fun _ h9 => List.mem_cons_of_mem _ (List.mem_append_right _ h9)
  subst hsz
  have hD := hD0.self (sz := s.heap.size)
  generalize hAe : va_A [(m0, .inr (11, oX11 ra x0)), (ra 2, .inl (kI, 8, .inl q_told))] s.heap.size = A at hD ⊢
  have hA : ∀ q : Nat, s.heap.size ≤ q → A q := fun q h => by rw [← hAe]; exact Or.inr h
  have hS : va_S A s.heap s.heap [] := va_S.rf
  have hP : va_P (dC, dI) vwCl [(m0, .inr (11, oX11 ra x0)), (ra 2, .inl (kI, 8, .inl q_told))] s.heap := hP
  have hl := lv_entry ([.ref m0, .int p0]) (n := 2) (Nat.le_of_ble_eq_true rfl)
  have hla : entryFrame m args0 2 = entryFrame m ([.ref m0, .int p0] : List Value).toArray 2 := by rw [hargs]
  rw [hla, lg_entry_eq]
  generalize (lg_sl ([.ref m0, .int p0]) ++ List.replicate (2 - (lg_sl ([.ref m0, .int p0])).length) Slot.unset).toArray = ls at hl ⊢
  have hl : lv_has ls 2 [(0, .ref m0), (1, .int p0)] := hl
  refine lv_iload_n hx hb dX11_isGoal_0 rfl (lv_at hl 1 rfl) ?_
  refine lv_iconst (v := 0) hx hb dX11_isGoal_1 ic_0 ?_
  refine lv_aload_n hx hb dX11_isGoal_2 rfl (lv_at hl 0 rfl) ?_
  obtain ⟨hPc, hDc, hFc, hJn⟩ := cl_a (wc := [(m0, .inr (11, oX11 ra x0)), (ra 2, .inl (kI, 8, .inl q_told))]) (wr := []) hP hD hS hA [0, 1] [] rfl rfl (by decide +kernel)
  refine va_calli (va_runV (As := []) (rest := [.int 0, .int p0]) ⟨hx, hb, hml, hown, hts⟩ (s11_goals l dC dI kB kI kJ kZ kC kS s.heap.size m0 ra x0 q_told (hX) (hq_told)) (cwV 0 hts gX11_isGoal_X11_goals rfl rfl rfl (by decide +kernel) ⟨Nat.le_of_ble_eq_true rfl, Nat.le_of_ble_eq_true rfl⟩) ⟨fun a U g mk q => by obtain ⟨q0, q1, qP, qE, qD⟩ := q; exact ⟨q0, q1, qP, kE_call qE, qD⟩, va_recv hK hP (ci := 11) (q0 := 0) rfl rfl, fun U hU hW => ⟨rfl, by rw [hU], by rw [hU]; exact hPc, kE_warm hW hE, hDc.weaken (fun _ _ _ _ => trivial)⟩⟩ rfl rfl hl.1 rfl (lv_room (Nat.le_of_ble_eq_true rfl)) dX11_isGoal_3 ⟨Nat.le_of_ble_eq_true rfl, Nat.le_of_ble_eq_true rfl⟩) hS (fun q _ h => hFc q h) hFc (fun r1 u t H locs ht hvm w2 hB hz1 hk1 hS => ?_)
  obtain ⟨hP1, hD1⟩ := hB
  try dsimp only at w2
  obtain ⟨hPa, hDa⟩ := hJn (w1 := [(m0, .inr (11, oX11 ra x0)), (ra 2, .inl (kI, 8, .inl q_told))]) hk1 ht hP1 hD1
  clear hP hD hPc hDc hFc hJn hP1 hD1 hk1
  have hP : va_P (dC, dI) vwCl [(m0, .inr (11, oX11 ra x0)), (ra 2, .inl (kI, 8, .inl q_told))] H := hPa
  have hD : va_D A [(m0, .inr (11, oX11 ra x0)), (ra 2, .inl (kI, 8, .inl q_told))] := hDa
  clear hPa hDa
  refine W.widen (k := 0) (n := 0) (Nat.le_of_ble_eq_true rfl) (Nat.le_of_ble_eq_true rfl) ?_
  subst w2
  refine lv_iconst (v := 1) hx hb dX11_isGoal_6 ic_1 ?_
  refine lv_isub hx hb dX11_isGoal_7 ?_
  have b3 : iv (-1) 2 ((q_told 2) - 1) := iv_sub (hq_told 2 : iv 0 3 (q_told 2)) ivk_1 (by decide) (by decide) (by decide) (by decide)
  obtain ⟨hPc, hDc, hFc, hJn⟩ := cl_a (wc := []) (wr := [(m0, .inr (11, oX11 ra x0)), (ra 2, .inl (kI, 8, .inl q_told))]) hP hD hS hA [] [0, 1] rfl rfl (by decide +kernel)
  refine va_calli (va_runS (As := [.int p0, .int 0, .int ((q_told 2) - 1)]) (rest := []) ⟨hx, hb, hml, hown, hts⟩ (s11_isIn_hi l dC dI kB kI kJ kZ kC kS H.size p0 ((q_told 2) - 1) ((sub3_lt hc (hq_told 2)))) (va_cwS 3 hts gX11_isGoal_X11_isIn rfl rfl rfl (by decide +kernel) ⟨Nat.le_of_ble_eq_true rfl, Nat.le_of_ble_eq_true rfl⟩) ⟨fun a U g mk q => by obtain ⟨q0, q1, qP, qE, qD⟩ := q; exact ⟨q0, q1, qP, kE_call qE, qD⟩, fun U hU hW => ⟨rfl, by rw [hU], by rw [hU]; exact hPc, kE_warm hW hE, hDc.weaken (fun _ _ _ _ => trivial)⟩⟩ rfl rfl hl.1 rfl (lv_room (Nat.le_of_ble_eq_true rfl)) dX11_isGoal_8 ⟨Nat.le_of_ble_eq_true rfl, Nat.le_of_ble_eq_true rfl⟩) hS (fun q _ h => hFc q h) hFc (fun r4 u t H locs ht hvm w5 hB hz1 hk1 hS => ?_)
  obtain ⟨hP1, hD1⟩ := hB
  try dsimp only at w5
  obtain ⟨hPa, hDa⟩ := hJn (w1 := []) hk1 ht hP1 hD1
  clear hP hD hPc hDc hFc hJn hP1 hD1 hk1
  have hP : va_P (dC, dI) vwCl [(m0, .inr (11, oX11 ra x0)), (ra 2, .inl (kI, 8, .inl q_told))] H := hPa
  have hD : va_D A [(m0, .inr (11, oX11 ra x0)), (ra 2, .inl (kI, 8, .inl q_told))] := hDa
  clear hPa hDa
  refine W.widen (k := 0) (n := 0) (Nat.le_of_ble_eq_true rfl) (Nat.le_of_ble_eq_true rfl) ?_
  obtain rfl : r4 = 0 := iv_one w5 (by decide)
  have hP9 := hP
  have hD9 := hD
  exact W.zret (v := 0) (ty := .boolean) hx hb hr rfl (fun t ht hW => ⟨⟨0, (), rfl, ivk_0, by rw [ht]; exact hP9, hD9⟩, hS.F ht⟩) hS.2.2 dX11_isGoal_11
def rm_s11_isGoal_in : Room := { frames := 1, cells := 0, slots := 0, locals := 22 }
set_option maxHeartbeats 4000000 in
set_option maxRecDepth 100000 in
theorem s11_isGoal_in (l : Launch) (dC : Nat → ClassId) (dI : Nat → Nat → Nat) (kB kI kJ kZ kC kS : ClassId) (sz : Nat) (m0 : Nat) (ra : Nat → Nat) (x0 : Nat → Int32) (q_told : Nat → Int32) (p0 : Int32) (hX : fI lX11 hX11 x0) (hq_told : fI lTold hTold q_told) (hp0 : iv 0 2 p0) (hc : p0 < q_told 2) : Met l yX11_isGoal wsX11_isGoal rm_s11_isGoal_in (va_Pc [.ref m0, .int p0] (fun U => U.heap.size = sz ∧ va_P (dC, dI) vwCl [(m0, .inr (11, oX11 ra x0)), (ra 2, .inl (kI, 8, .inl q_told))] U.heap ∧ kE dC dI kB kI kJ kZ kC kS U ∧ va_D (fun _ => True) [(m0, .inr (11, oX11 ra x0)), (ra 2, .inl (kI, 8, .inl q_told))])) (va_Qi (fun (r : Int32) (_ : Unit) => iv 1 1 r) (fun _ t => va_P (dC, dI) vwCl [(m0, .inr (11, oX11 ra x0)), (ra 2, .inl (kI, 8, .inl q_told))] t.heap ∧ va_D (va_A [(m0, .inr (11, oX11 ra x0)), (ra 2, .inl (kI, 8, .inl q_told))] sz) [(m0, .inr (11, oX11 ra x0)), (ra 2, .inl (kI, 8, .inl q_told))]) (va_A [(m0, .inr (11, oX11 ra x0)), (ra 2, .inl (kI, 8, .inl q_told))] sz)) 0 0 (va_A [(m0, .inr (11, oX11 ra x0)), (ra 2, .inl (kI, 8, .inl q_told))] sz) := by
  refine Met.ofW (cc := cX11_isGoal) (maxL := 2) (ret := (some .boolean)) (by decide) rfl ?_
  intro p e s m args0 below meth c s₁ B hml hv
  obtain ⟨hargs, hsz, hP, hE, hD0⟩ := hv
  have hx := B.exec
  have hb := B.bytes
  have hr := B.returns
  have hts := atoms_spec (ws := wsX11_isGoal) B.pre
  have hown : s.vm.findClass RX11 = some m.cls := findClass_of_methodNamed B.named
  have hlocks := B.notSynchronized
  have hK := hE.1
  have hin11 : ∀ w ∈ wsX110, w ∈ wsX11_isGoal := fun _ h9 => List.mem_cons_of_mem _ (List.mem_append_right _ h9)
  subst hsz
  have hD := hD0.self (sz := s.heap.size)
  generalize hAe : va_A [(m0, .inr (11, oX11 ra x0)), (ra 2, .inl (kI, 8, .inl q_told))] s.heap.size = A at hD ⊢
  have hA : ∀ q : Nat, s.heap.size ≤ q → A q := fun q h => by rw [← hAe]; exact Or.inr h
  have hS : va_S A s.heap s.heap [] := va_S.rf
  have hP : va_P (dC, dI) vwCl [(m0, .inr (11, oX11 ra x0)), (ra 2, .inl (kI, 8, .inl q_told))] s.heap := hP
  have hl := lv_entry ([.ref m0, .int p0]) (n := 2) (Nat.le_of_ble_eq_true rfl)
  have hla : entryFrame m args0 2 = entryFrame m ([.ref m0, .int p0] : List Value).toArray 2 := by rw [hargs]
  rw [hla, lg_entry_eq]
  generalize (lg_sl ([.ref m0, .int p0]) ++ List.replicate (2 - (lg_sl ([.ref m0, .int p0])).length) Slot.unset).toArray = ls at hl ⊢
  have hl : lv_has ls 2 [(0, .ref m0), (1, .int p0)] := hl
  refine lv_iload_n hx hb dX11_isGoal_0 rfl (lv_at hl 1 rfl) ?_
  refine lv_iconst (v := 0) hx hb dX11_isGoal_1 ic_0 ?_
  refine lv_aload_n hx hb dX11_isGoal_2 rfl (lv_at hl 0 rfl) ?_
  obtain ⟨hPc, hDc, hFc, hJn⟩ := cl_a (wc := [(m0, .inr (11, oX11 ra x0)), (ra 2, .inl (kI, 8, .inl q_told))]) (wr := []) hP hD hS hA [0, 1] [] rfl rfl (by decide +kernel)
  refine va_calli (va_runV (As := []) (rest := [.int 0, .int p0]) ⟨hx, hb, hml, hown, hts⟩ (s11_goals l dC dI kB kI kJ kZ kC kS s.heap.size m0 ra x0 q_told (hX) (hq_told)) (cwV 0 hts gX11_isGoal_X11_goals rfl rfl rfl (by decide +kernel) ⟨Nat.le_of_ble_eq_true rfl, Nat.le_of_ble_eq_true rfl⟩) ⟨fun a U g mk q => by obtain ⟨q0, q1, qP, qE, qD⟩ := q; exact ⟨q0, q1, qP, kE_call qE, qD⟩, va_recv hK hP (ci := 11) (q0 := 0) rfl rfl, fun U hU hW => ⟨rfl, by rw [hU], by rw [hU]; exact hPc, kE_warm hW hE, hDc.weaken (fun _ _ _ _ => trivial)⟩⟩ rfl rfl hl.1 rfl (lv_room (Nat.le_of_ble_eq_true rfl)) dX11_isGoal_3 ⟨Nat.le_of_ble_eq_true rfl, Nat.le_of_ble_eq_true rfl⟩) hS (fun q _ h => hFc q h) hFc (fun r1 u t H locs ht hvm w2 hB hz1 hk1 hS => ?_)
  obtain ⟨hP1, hD1⟩ := hB
  try dsimp only at w2
  obtain ⟨hPa, hDa⟩ := hJn (w1 := [(m0, .inr (11, oX11 ra x0)), (ra 2, .inl (kI, 8, .inl q_told))]) hk1 ht hP1 hD1
  clear hP hD hPc hDc hFc hJn hP1 hD1 hk1
  have hP : va_P (dC, dI) vwCl [(m0, .inr (11, oX11 ra x0)), (ra 2, .inl (kI, 8, .inl q_told))] H := hPa
  have hD : va_D A [(m0, .inr (11, oX11 ra x0)), (ra 2, .inl (kI, 8, .inl q_told))] := hDa
  clear hPa hDa
  refine W.widen (k := 0) (n := 0) (Nat.le_of_ble_eq_true rfl) (Nat.le_of_ble_eq_true rfl) ?_
  subst w2
  refine lv_iconst (v := 1) hx hb dX11_isGoal_6 ic_1 ?_
  refine lv_isub hx hb dX11_isGoal_7 ?_
  have b3 : iv (-1) 2 ((q_told 2) - 1) := iv_sub (hq_told 2 : iv 0 3 (q_told 2)) ivk_1 (by decide) (by decide) (by decide) (by decide)
  obtain ⟨hPc, hDc, hFc, hJn⟩ := cl_a (wc := []) (wr := [(m0, .inr (11, oX11 ra x0)), (ra 2, .inl (kI, 8, .inl q_told))]) hP hD hS hA [] [0, 1] rfl rfl (by decide +kernel)
  refine va_calli (va_runS (As := [.int p0, .int 0, .int ((q_told 2) - 1)]) (rest := []) ⟨hx, hb, hml, hown, hts⟩ (s11_isIn_in l dC dI kB kI kJ kZ kC kS H.size p0 ((q_told 2) - 1) (hp0) ((sub3_le hc (hq_told 2)))) (va_cwS 3 hts gX11_isGoal_X11_isIn rfl rfl rfl (by decide +kernel) ⟨Nat.le_of_ble_eq_true rfl, Nat.le_of_ble_eq_true rfl⟩) ⟨fun a U g mk q => by obtain ⟨q0, q1, qP, qE, qD⟩ := q; exact ⟨q0, q1, qP, kE_call qE, qD⟩, fun U hU hW => ⟨rfl, by rw [hU], by rw [hU]; exact hPc, kE_warm hW hE, hDc.weaken (fun _ _ _ _ => trivial)⟩⟩ rfl rfl hl.1 rfl (lv_room (Nat.le_of_ble_eq_true rfl)) dX11_isGoal_8 ⟨Nat.le_of_ble_eq_true rfl, Nat.le_of_ble_eq_true rfl⟩) hS (fun q _ h => hFc q h) hFc (fun r4 u t H locs ht hvm w5 hB hz1 hk1 hS => ?_)
  obtain ⟨hP1, hD1⟩ := hB
  try dsimp only at w5
  obtain ⟨hPa, hDa⟩ := hJn (w1 := []) hk1 ht hP1 hD1
  clear hP hD hPc hDc hFc hJn hP1 hD1 hk1
  have hP : va_P (dC, dI) vwCl [(m0, .inr (11, oX11 ra x0)), (ra 2, .inl (kI, 8, .inl q_told))] H := hPa
  have hD : va_D A [(m0, .inr (11, oX11 ra x0)), (ra 2, .inl (kI, 8, .inl q_told))] := hDa
  clear hPa hDa
  refine W.widen (k := 0) (n := 0) (Nat.le_of_ble_eq_true rfl) (Nat.le_of_ble_eq_true rfl) ?_
  obtain rfl : r4 = 1 := iv_one w5 (by decide)
  have hP9 := hP
  have hD9 := hD
  exact W.zret (v := 1) (ty := .boolean) hx hb hr rfl (fun t ht hW => ⟨⟨1, (), rfl, ivk_1, by rw [ht]; exact hP9, hD9⟩, hS.F ht⟩) hS.2.2 dX11_isGoal_11
def rm_s11_cover_lo : Room := { frames := 2, cells := 0, slots := 0, locals := 43 }
set_option maxHeartbeats 4000000 in
set_option maxRecDepth 100000 in
theorem s11_cover_lo (l : Launch) (dC : Nat → ClassId) (dI : Nat → Nat → Nat) (kB kI kJ kZ kC kS : ClassId) (sz : Nat) (m0 : Nat) (ra : Nat → Nat) (x0 : Nat → Int32) (q_told : Nat → Int32) (p0 : Int32) (hX : fI lX11 hX11 x0) (hq_told : fI lTold hTold q_told) (hp0 : iv (-2147483648) (-1) p0) : Met l yX11_cover wsX11_cover rm_s11_cover_lo (va_Pc [.ref m0, .int p0] (fun U => U.heap.size = sz ∧ va_P (dC, dI) vwCl [(m0, .inr (11, oX11 ra x0)), (ra 2, .inl (kI, 8, .inl q_told))] U.heap ∧ kE dC dI kB kI kJ kZ kC kS U ∧ va_D (fun _ => True) [(m0, .inr (11, oX11 ra x0)), (ra 2, .inl (kI, 8, .inl q_told))])) (va_Qi (fun (r : Int32) (_ : Unit) => iv 0 0 r) (fun _ t => ∃ (x0' : Nat → Int32), fI lX11 hX11 x0' ∧ (x0' 0 = 1) ∧ (x0' 1 = x0 1) ∧ (x0' 10 = x0 10) ∧ (x0' 11 = x0 11) ∧ (x0' 14 = x0 14) ∧ va_P (dC, dI) vwCl [(m0, .inr (11, oX11 ra x0')), (ra 2, .inl (kI, 8, .inl q_told))] t.heap ∧ va_D (va_A [(m0, .inr (11, oX11 ra x0)), (ra 2, .inl (kI, 8, .inl q_told))] sz) [(m0, .inr (11, oX11 ra x0')), (ra 2, .inl (kI, 8, .inl q_told))]) (va_A [(m0, .inr (11, oX11 ra x0)), (ra 2, .inl (kI, 8, .inl q_told))] sz)) 0 0 (va_A [(m0, .inr (11, oX11 ra x0)), (ra 2, .inl (kI, 8, .inl q_told))] sz) := by
  refine Met.ofW (cc := cX11_cover) (maxL := 4) (ret := (some .int)) (by decide) rfl ?_
  intro p e s m args0 below meth c s₁ B hml hv
  obtain ⟨hargs, hsz, hP, hE, hD0⟩ := hv
  have hx := B.exec
  have hb := B.bytes
  have hr := B.returns
  have hts := atoms_spec (ws := wsX11_cover) B.pre
  have hown : s.vm.findClass RX11 = some m.cls := findClass_of_methodNamed B.named
  have hlocks := B.notSynchronized
  have hK := hE.1
  have hin11 : ∀ w ∈ wsX110, w ∈ wsX11_cover := fun _ h9 => List.mem_cons_of_mem _ (List.mem_append_right _ h9)
  have hw_0 := hts (.fieldLink RX11 142 "PathProberModel" "code" "I") (List.mem_of_getElem? (i := 1) rfl)
  subst hsz
  have hD := hD0.self (sz := s.heap.size)
  generalize hAe : va_A [(m0, .inr (11, oX11 ra x0)), (ra 2, .inl (kI, 8, .inl q_told))] s.heap.size = A at hD ⊢
  have hA : ∀ q : Nat, s.heap.size ≤ q → A q := fun q h => by rw [← hAe]; exact Or.inr h
  have hS : va_S A s.heap s.heap [] := va_S.rf
  have hP : va_P (dC, dI) vwCl [(m0, .inr (11, oX11 ra x0)), (ra 2, .inl (kI, 8, .inl q_told))] s.heap := hP
  have hl := lv_entry ([.ref m0, .int p0]) (n := 4) (Nat.le_of_ble_eq_true rfl)
  have hla : entryFrame m args0 4 = entryFrame m ([.ref m0, .int p0] : List Value).toArray 4 := by rw [hargs]
  rw [hla, lg_entry_eq]
  generalize (lg_sl ([.ref m0, .int p0]) ++ List.replicate (4 - (lg_sl ([.ref m0, .int p0])).length) Slot.unset).toArray = ls at hl ⊢
  have hl : lv_has ls 4 [(0, .ref m0), (1, .int p0)] := hl
  refine lv_aload_n hx hb dX11_cover_0 rfl (lv_at hl 0 rfl) ?_
  refine lv_iconst (v := 0) hx hb dX11_cover_1 ic_0 ?_
  refine va_put (D := (dC, dI)) (ci := 11) (v := .int 0) (ty := .int) (C := RX11) (T := TX11) (N := 61) hx hb hts hin11 tyX11 tyX11_ok nmX11 hown hK hP hD hS 0 rfl rfl 2 (by decide) hw_0 (fun _ h9 => h9) rfl (by decide +kernel) rfl rfl (Nat.le_of_ble_eq_true rfl) dX11_cover_2 (fun H locs hPa hDa hS => ?_)
  clear hP hD
  have hP : va_P (dC, dI) vwCl [(m0, .inr (11, oX11 ra (upd x0 0 0))), (ra 2, .inl (kI, 8, .inl q_told))] H := hPa
  have hD : va_D A [(m0, .inr (11, oX11 ra (upd x0 0 0))), (ra 2, .inl (kI, 8, .inl q_told))] := hDa
  clear hPa hDa
  refine lv_aload_n hx hb dX11_cover_5 rfl (lv_at hl 0 rfl) ?_
  refine lv_iload_n hx hb dX11_cover_6 rfl (lv_at hl 1 rfl) ?_
  obtain ⟨hPc, hDc, hFc, hJn⟩ := cl_a (wc := [(m0, .inr (11, oX11 ra (upd x0 0 0))), (ra 2, .inl (kI, 8, .inl q_told))]) (wr := []) hP hD hS hA [0, 1] [] rfl rfl (by decide +kernel)
  refine va_calli (va_runV (As := [.int p0]) (rest := []) ⟨hx, hb, hml, hown, hts⟩ (s11_isGoal_lo l dC dI kB kI kJ kZ kC kS H.size m0 ra (upd x0 0 0) q_told p0 ((fI_u hX (k := 0) ((iv_w ivk_0 (by decide) (by decide))))) (hq_told) (hp0)) (cwV 1 hts gX11_cover_X11_isGoal rfl rfl rfl (by decide +kernel) ⟨Nat.le_of_ble_eq_true rfl, Nat.le_of_ble_eq_true rfl⟩) ⟨fun a U g mk q => by obtain ⟨q0, q1, qP, qE, qD⟩ := q; exact ⟨q0, q1, qP, kE_call qE, qD⟩, va_recv hK hP (ci := 11) (q0 := 0) rfl rfl, fun U hU hW => ⟨rfl, by rw [hU], by rw [hU]; exact hPc, kE_warm hW hE, hDc.weaken (fun _ _ _ _ => trivial)⟩⟩ rfl rfl hl.1 rfl (lv_room (Nat.le_of_ble_eq_true rfl)) dX11_cover_7 ⟨Nat.le_of_ble_eq_true rfl, Nat.le_of_ble_eq_true rfl⟩) hS (fun q _ h => hFc q h) hFc (fun r1 u t H locs ht hvm w2 hB hz1 hk1 hS => ?_)
  obtain ⟨hP1, hD1⟩ := hB
  try dsimp only at w2
  obtain ⟨hPa, hDa⟩ := hJn (w1 := [(m0, .inr (11, oX11 ra (upd x0 0 0))), (ra 2, .inl (kI, 8, .inl q_told))]) hk1 ht hP1 hD1
  clear hP hD hPc hDc hFc hJn hP1 hD1 hk1
  have hP : va_P (dC, dI) vwCl [(m0, .inr (11, oX11 ra (upd x0 0 0))), (ra 2, .inl (kI, 8, .inl q_told))] H := hPa
  have hD : va_D A [(m0, .inr (11, oX11 ra (upd x0 0 0))), (ra 2, .inl (kI, 8, .inl q_told))] := hDa
  clear hPa hDa
  refine W.widen (k := 0) (n := 0) (Nat.le_of_ble_eq_true rfl) (Nat.le_of_ble_eq_true rfl) ?_
  obtain rfl : r1 = 0 := iv_one w2 (by decide)
  refine lv_if_ne (tgt := 19) hx hb dX11_cover_10 rfl (fun c9 => absurd (by decide) c9) (fun _ => ?_)
  refine lv_aload_n hx hb dX11_cover_13 rfl (lv_at hl 0 rfl) ?_
  refine lv_iconst (v := 1) hx hb dX11_cover_14 ic_1 ?_
  obtain ⟨hPc, hDc, hFc, hJn⟩ := cl_a (wc := [(m0, .inr (11, oX11 ra (upd x0 0 0)))]) (wr := [(ra 2, .inl (kI, 8, .inl q_told))]) hP hD hS hA [0] [1] rfl rfl (by decide +kernel)
  refine va_calli (va_runV (As := [.int 1]) (rest := []) ⟨hx, hb, hml, hown, hts⟩ (s11_fail l dC dI kB kI kJ kZ kC kS H.size m0 ra (upd x0 0 0) 1 ((fI_u hX (k := 0) ((iv_w ivk_0 (by decide) (by decide)))))) (cwV 1 hts gX11_cover_X11_fail rfl rfl rfl (by decide +kernel) ⟨Nat.le_of_ble_eq_true rfl, Nat.le_of_ble_eq_true rfl⟩) ⟨fun a U g mk q => by obtain ⟨q0, q1, qP, qE, qD⟩ := q; exact ⟨q0, q1, qP, kE_call qE, qD⟩, va_recv hK hP (ci := 11) (q0 := 0) rfl rfl, fun U hU hW => ⟨rfl, by rw [hU], by rw [hU]; exact hPc, kE_warm hW hE, hDc.weaken (fun _ _ _ _ => trivial)⟩⟩ rfl rfl hl.1 rfl (lv_room (Nat.le_of_ble_eq_true rfl)) dX11_cover_15 ⟨Nat.le_of_ble_eq_true rfl, Nat.le_of_ble_eq_true rfl⟩) hS (fun q _ h => hFc q h) hFc (fun r3 u t H locs ht hvm w4 hB hz1 hk1 hS => ?_)
  obtain ⟨y5, hq6, hq7, hq8, hq9, hq10, hq11, hP1, hD1⟩ := hB
  try dsimp only at w4
  obtain ⟨hPa, hDa⟩ := hJn (w1 := [(m0, .inr (11, oX11 ra y5))]) hk1 ht hP1 hD1
  clear hP hD hPc hDc hFc hJn hP1 hD1 hk1
  have hP : va_P (dC, dI) vwCl [(ra 2, .inl (kI, 8, .inl q_told)), (m0, .inr (11, oX11 ra y5))] H := hPa
  have hD : va_D A [(ra 2, .inl (kI, 8, .inl q_told)), (m0, .inr (11, oX11 ra y5))] := hDa
  clear hPa hDa
  refine W.widen (k := 0) (n := 0) (Nat.le_of_ble_eq_true rfl) (Nat.le_of_ble_eq_true rfl) ?_
  obtain rfl : r3 = 0 := iv_one w4 (by decide)
  have hPD9 := cl_s (wc := [(m0, .inr (11, oX11 ra y5)), (ra 2, .inl (kI, 8, .inl q_told))]) hP hD [1, 0] rfl (by decide +kernel)
  have hP9 := hPD9.1
  have hD9 := hPD9.2
  exact W.iret (v := 0) hx hb hr (fun t ht hW => ⟨⟨0, (), rfl, ivk_0, y5, hq6, (show y5 0 = 1 from hq7), (show y5 1 = x0 1 from hq8), (show y5 10 = x0 10 from hq9), (show y5 11 = x0 11 from hq10), (show y5 14 = x0 14 from hq11), by rw [ht]; exact hP9, hD9⟩, hS.F ht⟩) hS.2.2 dX11_cover_18
