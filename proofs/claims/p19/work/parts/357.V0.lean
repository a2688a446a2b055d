def rm_s11_cover_hi : Room := { frames := 2, cells := 0, slots := 0, locals := 43 }
set_option maxHeartbeats 4000000 in
set_option maxRecDepth 100000 in
theorem s11_cover_hi (l : Launch) (dC : Nat → ClassId) (dI : Nat → Nat → Nat) (kB kI kJ kZ kC kS : ClassId) (sz : Nat) (m0 : Nat) (ra : Nat → Nat) (x0 : Nat → Int32) (q_told : Nat → Int32) (p0 : Int32) (hX : fI lX11 hX11 x0) (hq_told : fI lTold hTold q_told) (hc : q_told 2 ≤ p0) : Met l yX11_cover wsX11_cover rm_s11_cover_hi (va_Pc [.ref m0, .int p0] (fun U => U.heap.size = sz ∧ va_P (dC, dI) vwCl [(m0, .inr (11, oX11 ra x0)), (ra 2, .inl (kI, 8, .inl q_told))] U.heap ∧ kE dC dI kB kI kJ kZ kC kS U ∧ va_D (fun _ => True) [(m0, .inr (11, oX11 ra x0)), (ra 2, .inl (kI, 8, .inl q_told))])) (va_Qi (fun (r : Int32) (_ : Unit) => iv 0 0 r) (fun _ t => ∃ (x0' : Nat → Int32), fI lX11 hX11 x0' ∧ (x0' 0 = 1) ∧ (x0' 1 = x0 1) ∧ (x0' 10 = x0 10) ∧ (x0' 11 = x0 11) ∧ (x0' 14 = x0 14) ∧ va_P (dC, dI) vwCl [(m0, .inr (11, oX11 ra x0')), (ra 2, .inl (kI, 8, .inl q_told))] t.heap ∧ va_D (va_A [(m0, .inr (11, oX11 ra x0)), (ra 2, .inl (kI, 8, .inl q_told))] sz) [(m0, .inr (11, oX11 ra x0')), (ra 2, .inl (kI, 8, .inl q_told))]) (va_A [(m0, .inr (11, oX11 ra x0)), (ra 2, .inl (kI, 8, .inl q_told))] sz)) 0 0 (va_A [(m0, .inr (11, oX11 ra x0)), (ra 2, .inl (kI, 8, .inl q_told))] sz) := by
  refine Met.ofW (cc := cX11_cover) (maxL := 4) (ret := (some .int)) (by decide) rfl ?_
  intro p e s m args0 below meth c s₁ B hml hv
  obtain ⟨hargs, hsz, hP, hE, hD0⟩ := hv
  have hx := B.exec
  have hb := B.bytes
  have hr := B.returns
  have hts := atoms_spec (ws := wsX11_cover) B.pre
  have hown : s.vm.findClass RX11 = some m.cls := findClass_of_methodNamed B.named
  have hlocks := B.notSynchronized
  have hK := hE.1
  have hin11 : ∀ w ∈ wsX110, w ∈ wsX11_cover := fun _ h9 => List.mem_cons_of_mem _ (List.mem_append_right _ h9)
  have hw_0 := hts (.fieldLink RX11 142 "PathProberModel" "code" "I") (List.mem_of_getElem? (i := 1) rfl)
  subst hsz
  have hD := hD0.self (sz := s.heap.size)
  generalize hAe : va_A [(m0, .inr (11, oX11 ra x0)), (ra 2, .inl (kI, 8, .inl q_told))] s.heap.size = A at hD ⊢
  have hA : ∀ q : Nat, s.heap.size ≤ q → A q := fun q h => by rw [← hAe]; exact Or.inr h
  have hS : va_S A s.heap s.heap [] := va_S.rf
  have hP : va_P (dC, dI) vwCl [(m0, .inr (11, oX11 ra x0)), (ra 2, .inl (kI, 8, .inl q_told))] s.heap := hP
  have hl := lv_entry ([.ref m0, .int p0]) (n := 4) (Nat.le_of_ble_eq_true rfl)
  have hla : entryFrame m args0 4 = entryFrame m ([.ref m0, .int p0] : List Value).toArray 4 := by rw [hargs]
  rw [hla, lg_entry_eq]
  generalize (lg_sl ([.ref m0, .int p0]) ++ List.replicate (4 - (lg_sl ([.ref m0, .int p0])).length) Slot.unset).toArray = ls at hl ⊢
  have hl : lv_has ls 4 [(0, .ref m0), (1, .int p0)] := hl
  refine lv_aload_n hx hb dX11_cover_0 rfl (lv_at hl 0 rfl) ?_
  refine lv_iconst (v := 0) hx hb dX11_cover_1 ic_0 ?_
  refine va_put (D := (dC, dI)) (ci := 11) (v := .int 0) (ty := .int) (C := RX11) (T := TX11) (N := 61) hx hb hts hin11 tyX11 tyX11_ok nmX11 hown hK hP hD hS 0 rfl rfl 2 (by decide) hw_0 (fun _ h9 => h9) rfl (by decide +kernel) rfl rfl (Nat.le_of_ble_eq_true rfl) dX11_cover_2 (fun H locs hPa hDa hS => ?_)
  clear hP hD
  have hP : va_P (dC, dI) vwCl [(m0, .inr (11, oX11 ra (upd x0 0 0))), (ra 2, .inl (kI, 8, .inl q_told))] H := hPa
  have hD : va_D A [(m0, .inr (11, oX11 ra (upd x0 0 0))), (ra 2, .inl (kI, 8, .inl q_told))] := hDa
  clear hPa hDa
  refine lv_aload_n hx hb dX11_cover_5 rfl (lv_at hl 0 rfl) ?_
  refine lv_iload_n hx hb dX11_cover_6 rfl (lv_at hl 1 rfl) ?_
  obtain ⟨hPc, hDc, hFc, hJn⟩ := cl_a (wc := [(m0, .inr (11, oX11 ra (upd x0 0 0))), (ra 2, .inl (kI, 8, .inl q_told))]) (wr := []) hP hD hS hA [0, 1] [] rfl rfl (by decide +kernel)
  refine va_calli (va_runV (As := [.int p0]) (rest := []) ⟨hx, hb, hml, hown, hts⟩ (s11_isGoal_hi l dC dI kB kI kJ kZ kC kS H.size m0 ra (upd x0 0 0) q_told p0 ((fI_u hX (k := 0) ((iv_w ivk_0 (by decide) (by decide))))) (hq_told) (hc)) (cwV 1 hts gX11_cover_X11_isGoal rfl rfl rfl (by decide +kernel) ⟨Nat.le_of_ble_eq_true rfl, Nat.le_of_ble_eq_true rfl⟩) ⟨fun a U g mk q => by obtain ⟨q0, q1, qP, qE, qD⟩ := q; exact ⟨q0, q1, qP, kE_call qE, qD⟩, va_recv hK hP (ci := 11) (q0 := 0) rfl rfl, fun U hU hW => ⟨rfl, by rw [hU], by rw [hU]; exact hPc, kE_warm hW hE, hDc.weaken (fun _ _ _ _ => trivial)⟩⟩ rfl rfl hl.1 rfl (lv_room (Nat.le_of_ble_eq_true rfl)) dX11_cover_7 ⟨Nat.le_of_ble_eq_true rfl, Nat.le_of_ble_eq_true rfl⟩) hS (fun q _ h => hFc q h) hFc (fun r1 u t H locs ht hvm w2 hB hz1 hk1 hS => ?_)
  obtain ⟨hP1, hD1⟩ := hB
  try dsimp only at w2
  obtain ⟨hPa, hDa⟩ := hJn (w1 := [(m0, .inr (11, oX11 ra (upd x0 0 0))), (ra 2, .inl (kI, 8, .inl q_told))]) hk1 ht hP1 hD1
  clear hP hD hPc hDc hFc hJn hP1 hD1 hk1
  have hP : va_P (dC, dI) vwCl [(m0, .inr (11, oX11 ra (upd x0 0 0))), (ra 2, .inl (kI, 8, .inl q_told))] H := hPa
  have hD : va_D A [(m0, .inr (11, oX11 ra (upd x0 0 0))), (ra 2, .inl (kI, 8, .inl q_told))] := hDa
  clear hPa hDa
  refine W.widen (k := 0) (n := 0) (Nat.le_of_ble_eq_true rfl) (Nat.le_of_ble_eq_true rfl) ?_
  obtain rfl : r1 = 0 := iv_one w2 (by decide)
  refine lv_if_ne (tgt := 19) hx hb dX11_cover_10 rfl (fun c9 => absurd (by decide) c9) (fun _ => ?_)
  refine lv_aload_n hx hb dX11_cover_13 rfl (lv_at hl 0 rfl) ?_
  refine lv_iconst (v := 1) hx hb dX11_cover_14 ic_1 ?_
  obtain ⟨hPc, hDc, hFc, hJn⟩ := cl_a (wc := [(m0, .inr (11, oX11 ra (upd x0 0 0)))]) (wr := [(ra 2, .inl (kI, 8, .inl q_told))]) hP hD hS hA [0] [1] rfl rfl (by decide +kernel)
  refine va_calli (va_runV (As := [.int 1]) (rest := []) ⟨hx, hb, hml, hown, hts⟩ (s11_fail l dC dI kB kI kJ kZ kC kS H.size m0 ra (upd x0 0 0) 1 ((fI_u hX (k := 0) ((iv_w ivk_0 (by decide) (by decide)))))) (cwV 1 hts gX11_cover_X11_fail rfl rfl rfl (by decide +kernel) ⟨Nat.le_of_ble_eq_true rfl, Nat.le_of_ble_eq_true rfl⟩) ⟨fun a U g mk q => by obtain ⟨q0, q1, qP, qE, qD⟩ := q; exact ⟨q0, q1, qP, kE_call qE, qD⟩, va_recv hK hP (ci := 11) (q0 := 0) rfl rfl, fun U hU hW => ⟨rfl, by rw [hU], by rw [hU]; exact hPc, kE_warm hW hE, hDc.weaken (fun _ _ _ _ => trivial)⟩⟩ rfl rfl hl.1 rfl (lv_room (Nat.le_of_ble_eq_true rfl)) dX11_cover_15 ⟨Nat.le_of_ble_eq_true rfl, Nat.le_of_ble_eq_true rfl⟩) hS (fun q _ h => hFc q h) hFc (fun r3 u t H locs ht hvm w4 hB hz1 hk1 hS => ?_)
  obtain ⟨y5, hq6, hq7, hq8, hq9, hq10, hq11, hP1, hD1⟩ := hB
  try dsimp only at w4
  obtain ⟨hPa, hDa⟩ := hJn (w1 := [(m0, .inr (11, oX11 ra y5))]) hk1 ht hP1 hD1
  clear hP hD hPc hDc hFc hJn hP1 hD1 hk1
  have hP : va_P (dC, dI) vwCl [(ra 2, .inl (kI, 8, .inl q_told)), (m0, .inr (11, oX11 ra y5))] H := hPa
  have hD : va_D A [(ra 2, .inl (kI, 8, .inl q_told)), (m0, .inr (11, oX11 ra y5))] := hDa
  clear hPa hDa
  refine W.widen (k := 0) (n := 0) (Nat.le_of_ble_eq_true rfl) (Nat.le_of_ble_eq_true rfl) ?_
  obtain rfl : r3 = 0 := iv_one w4 (by decide)
  have hPD9 := cl_s (wc := [(m0, .inr (11, oX11 ra y5)), (ra 2, .inl (kI, 8, .inl q_told))]) hP hD [1, 0] rfl (by decide +kernel)
  have hP9 := hPD9.1
  have hD9 := hPD9.2
  exact W.iret (v := 0) hx hb hr (fun t ht hW => ⟨⟨0, (), rfl, ivk_0, y5, hq6, (show y5 0 = 1 from hq7), (show y5 1 = x0 1 from hq8), (show y5 10 = x0 10 from hq9), (show y5 11 = x0 11 from hq10), (show y5 14 = x0 14 from hq11), by rw [ht]; exact hP9, hD9⟩, hS.F ht⟩) hS.2.2 dX11_cover_18
def rm_s11_cover_in : Room := { frames := 4, cells := 0, slots := 0, locals := 102 }
set_option maxHeartbeats 4000000 in
set_option maxRecDepth 100000 in
theorem s11_cover_in (l : Launch) (dC : Nat → ClassId) (dI : Nat → Nat → Nat) (kB kI kJ kZ kC kS : ClassId) (sz : Nat) (m0 : Nat) (ra : Nat → Nat) (x0 : Nat → Int32) (q_told : Nat → Int32) (q_kind : Nat → Int32) (q_salt : Nat → Int32) (q_from : Nat → Int32) (q_to : Nat → Int32) (q_goal : Nat → Int32) (q_now : Nat → Int32) (q_reach : Nat → Int32) (p0 : Int32) (hX : fI lX11 hX11 x0) (hq_told : fI lTold hTold q_told) (hq_salt : fI (fun _ => 0) (fun _ => 15) q_salt) (hq_from : fI (fun _ => 0) (fun _ => 11) q_from) (hq_to : fI (fun _ => 0) (fun _ => 11) q_to) (hq_goal : fI (fun _ => 0) (fun _ => 11) q_goal) (hq_now : fI lNow hNow q_now) (hp0 : iv 0 2 p0) (hWR : WfN q_told q_kind q_from q_to q_goal) (hTR : TabR q_told q_from q_to q_reach) (hg : p0 < q_told 2) (hfl11 : iv (-1) (-1) (x0 11)) (hfl14 : iv 0 0 (x0 14)) : Met l yX11_cover wsX11_cover rm_s11_cover_in (va_Pc [.ref m0, .int p0] (fun U => U.heap.size = sz ∧ va_P (dC, dI) vwCl [(m0, .inr (11, oX11 ra x0)), (ra 2, .inl (kI, 8, .inl q_told)), (ra 3, .inl (kI, 24, .inl q_kind)), (ra 4, .inl (kI, 24, .inl q_salt)), (ra 8, .inl (kI, 40, .inl q_from)), (ra 9, .inl (kI, 40, .inl q_to)), (ra 10, .inl (kI, 6, .inl q_goal)), (ra 11, .inl (kI, 1019, .inl q_now)), (ra 14, .inl (kI, 12, .inl q_reach))] U.heap ∧ kE dC dI kB kI kJ kZ kC kS U ∧ va_D (fun _ => True) [(m0, .inr (11, oX11 ra x0)), (ra 2, .inl (kI, 8, .inl q_told)), (ra 3, .inl (kI, 24, .inl q_kind)), (ra 4, .inl (kI, 24, .inl q_salt)), (ra 8, .inl (kI, 40, .inl q_from)), (ra 9, .inl (kI, 40, .inl q_to)), (ra 10, .inl (kI, 6, .inl q_goal)), (ra 11, .inl (kI, 1019, .inl q_now)), (ra 14, .inl (kI, 12, .inl q_reach))])) (va_Qi (fun (r : Int32) (_ : Unit) => r = covS (q_told 1) q_kind q_salt q_from q_to q_goal q_now p0) (fun _ t => ∃ (x0' : Nat → Int32), fI lX11 hX11 x0' ∧ (x0' 0 = 0) ∧ (x0' 1 = x0 1) ∧ (x0' 10 = x0 10) ∧ (x0' 11 = x0 11) ∧ (x0' 14 = x0 14) ∧ va_P (dC, dI) vwCl [(m0, .inr (11, oX11 ra x0')), (ra 2, .inl (kI, 8, .inl q_told)), (ra 3, .inl (kI, 24, .inl q_kind)), (ra 4, .inl (kI, 24, .inl q_salt)), (ra 8, .inl (kI, 40, .inl q_from)), (ra 9, .inl (kI, 40, .inl q_to)), (ra 10, .inl (kI, 6, .inl q_goal)), (ra 11, .inl (kI, 1019, .inl q_now)), (ra 14, .inl (kI, 12, .inl q_reach))] t.heap ∧ va_D (va_A [(m0, .inr (11, oX11 ra x0)), (ra 2, .inl (kI, 8, .inl q_told)), (ra 3, .inl (kI, 24, .inl q_kind)), (ra 4, .inl (kI, 24, .inl q_salt)), (ra 8, .inl (kI, 40, .inl q_from)), (ra 9, .inl (kI, 40, .inl q_to)), (ra 10, .inl (kI, 6, .inl q_goal)), (ra 11, .inl (kI, 1019, .inl q_now)), (ra 14, .inl (kI, 12, .inl q_reach))] sz) [(m0, .inr (11, oX11 ra x0')), (ra 2, .inl (kI, 8, .inl q_told)), (ra 3, .inl (kI, 24, .inl q_kind)), (ra 4, .inl (kI, 24, .inl q_salt)), (ra 8, .inl (kI, 40, .inl q_from)), (ra 9, .inl (kI, 40, .inl q_to)), (ra 10, .inl (kI, 6, .inl q_goal)), (ra 11, .inl (kI, 1019, .inl q_now)), (ra 14, .inl (kI, 12, .inl q_reach))]) (va_A [(m0, .inr (11, oX11 ra x0)), (ra 2, .inl (kI, 8, .inl q_told)), (ra 3, .inl (kI, 24, .inl q_kind)), (ra 4, .inl (kI, 24, .inl q_salt)), (ra 8, .inl (kI, 40, .inl q_from)), (ra 9, .inl (kI, 40, .inl q_to)), (ra 10, .inl (kI, 6, .inl q_goal)), (ra 11, .inl (kI, 1019, .inl q_now)), (ra 14, .inl (kI, 12, .inl q_reach))] sz)) 0 0 (va_A [(m0, .inr (11, oX11 ra x0)), (ra 2, .inl (kI, 8, .inl q_told)), (ra 3, .inl (kI, 24, .inl q_kind)), (ra 4, .inl (kI, 24, .inl q_salt)), (ra 8, .inl (kI, 40, .inl q_from)), (ra 9, .inl (kI, 40, .inl q_to)), (ra 10, .inl (kI, 6, .inl q_goal)), (ra 11, .inl (kI, 1019, .inl q_now)), (ra 14, .inl (kI, 12, .inl q_reach))] sz) := by
  refine Met.ofW (cc := cX11_cover) (maxL := 4) (ret := (some .int)) (by decide) rfl ?_
  intro p e s m args0 below meth c s₁ B hml hv
  obtain ⟨hargs, hsz, hP, hE, hD0⟩ := hv
  have hx := B.exec
  have hb := B.bytes
  have hr := B.returns
  have hts := atoms_spec (ws := wsX11_cover) B.pre
  have hown : s.vm.findClass RX11 = some m.cls := findClass_of_methodNamed B.named
  have hlocks := B.notSynchronized
  have hK := hE.1
  have hin11 : ∀ w ∈ wsX110, w ∈ wsX11_cover := fun _ h9 => List.mem_cons_of_mem _ (List.mem_append_right _ h9)
  have hw_0 := hts (.fieldLink RX11 440 "PathProberModel" "wayLinks" "I") (List.mem_of_getElem? (i := 5) rfl)
  have hw_1 := hts (.fieldLink RX11 73 "PathProberModel" "reach" "[I") (List.mem_of_getElem? (i := 2) rfl)
  have hw_2 := hts (.fieldLink RX11 53 "PathProberModel" "from" "[I") (List.mem_of_getElem? (i := 3) rfl)
  have hw_3 := hts (.fieldLink RX11 58 "PathProberModel" "goal" "[I") (List.mem_of_getElem? (i := 4) rfl)
  have hw_4 := hts (.fieldLink RX11 142 "PathProberModel" "code" "I") (List.mem_of_getElem? (i := 1) rfl)
  subst hsz
  have hD := hD0.self (sz := s.heap.size)
  generalize hAe : va_A [(m0, .inr (11, oX11 ra x0)), (ra 2, .inl (kI, 8, .inl q_told)), (ra 3, .inl (kI, 24, .inl q_kind)), (ra 4, .inl (kI, 24, .inl q_salt)), (ra 8, .inl (kI, 40, .inl q_from)), (ra 9, .inl (kI, 40, .inl q_to)), (ra 10, .inl (kI, 6, .inl q_goal)), (ra 11, .inl (kI, 1019, .inl q_now)), (ra 14, .inl (kI, 12, .inl q_reach))] s.heap.size = A at hD ⊢
  have hA : ∀ q : Nat, s.heap.size ≤ q → A q := fun q h => by rw [← hAe]; exact Or.inr h
  have hS : va_S A s.heap s.heap [] := va_S.rf
  have hP : va_P (dC, dI) vwCl [(m0, .inr (11, oX11 ra x0)), (ra 2, .inl (kI, 8, .inl q_told)), (ra 3, .inl (kI, 24, .inl q_kind)), (ra 4, .inl (kI, 24, .inl q_salt)), (ra 8, .inl (kI, 40, .inl q_from)), (ra 9, .inl (kI, 40, .inl q_to)), (ra 10, .inl (kI, 6, .inl q_goal)), (ra 11, .inl (kI, 1019, .inl q_now)), (ra 14, .inl (kI, 12, .inl q_reach))] s.heap := hP
  have hl := lv_entry ([.ref m0, .int p0]) (n := 4) (Nat.le_of_ble_eq_true rfl)
  have hla : entryFrame m args0 4 = entryFrame m ([.ref m0, .int p0] : List Value).toArray 4 := by rw [hargs]
  rw [hla, lg_entry_eq]
  generalize (lg_sl ([.ref m0, .int p0]) ++ List.replicate (4 - (lg_sl ([.ref m0, .int p0])).length) Slot.unset).toArray = ls at hl ⊢
  have hl : lv_has ls 4 [(0, .ref m0), (1, .int p0)] := hl
  have hJ86 : ∀ (n : Nat) (y86_0 : Nat → Int32) (v86_loc2 : Int32) (v86_loc3 : Int32) (H : Heap) (locs : List Loc) (ls : Array Slot), (32 - v86_loc3.toInt).toNat < n → fI lX11 hX11 y86_0 → iv 0 32 v86_loc3 → iv (-1) (-1) (y86_0 11) → iv 0 0 (y86_0 14) → (CvR (wnt (nF q_from) (nF q_to) (q_told 1).toNatClampNeg (nF q_goal p0.toNatClampNeg)) (fun q9 l9 => wayP (stT (nF q_from) (nF q_to) (q_told 1).toNatClampNeg (nF q_goal p0.toNatClampNeg) (chN q_kind q_salt q_now (nI q9) p0)) (nF q_to) (nF q_goal p0.toNatClampNeg) 12 0 l9) v86_loc2 v86_loc3.toNatClampNeg ∧ ((v86_loc3 : Int32) = 0 ∨ ¬ (v86_loc2 : Int32) = 0)) → (y86_0 0 = 0) → (y86_0 1 = x0 1) → (y86_0 10 = x0 10) → (y86_0 11 = x0 11) → (y86_0 14 = x0 14) → va_P (dC, dI) vwCl [(m0, .inr (11, oX11 ra y86_0)), (ra 2, .inl (kI, 8, .inl q_told)), (ra 3, .inl (kI, 24, .inl q_kind)), (ra 4, .inl (kI, 24, .inl q_salt)), (ra 8, .inl (kI, 40, .inl q_from)), (ra 9, .inl (kI, 40, .inl q_to)), (ra 10, .inl (kI, 6, .inl q_goal)), (ra 11, .inl (kI, 1019, .inl q_now)), (ra 14, .inl (kI, 12, .inl q_reach))] H → va_D A [(m0, .inr (11, oX11 ra y86_0)), (ra 2, .inl (kI, 8, .inl q_told)), (ra 3, .inl (kI, 24, .inl q_kind)), (ra 4, .inl (kI, 24, .inl q_salt)), (ra 8, .inl (kI, 40, .inl q_from)), (ra 9, .inl (kI, 40, .inl q_to)), (ra 10, .inl (kI, 6, .inl q_goal)), (ra 11, .inl (kI, 1019, .inl q_now)), (ra 14, .inl (kI, 12, .inl q_reach))] → va_S A s.heap H locs → lv_has ls 4 [(0, .ref m0), (1, .int p0), (2, .int v86_loc2), (3, .int v86_loc3)] → W p l e (headSpec wsX11_cover rm_s11_cover_in).room s m args0 below meth c H locs (0) (0) (MQ below (va_Qi (fun (r : Int32) (_ : Unit) => r = covS (q_told 1) q_kind q_salt q_from q_to q_goal q_now p0) (fun _ t => ∃ (x0' : Nat → Int32), fI lX11 hX11 x0' ∧ (x0' 0 = 0) ∧ (x0' 1 = x0 1) ∧ (x0' 10 = x0 10) ∧ (x0' 11 = x0 11) ∧ (x0' 14 = x0 14) ∧ va_P (dC, dI) vwCl [(m0, .inr (11, oX11 ra x0')), (ra 2, .inl (kI, 8, .inl q_told)), (ra 3, .inl (kI, 24, .inl q_kind)), (ra 4, .inl (kI, 24, .inl q_salt)), (ra 8, .inl (kI, 40, .inl q_from)), (ra 9, .inl (kI, 40, .inl q_to)), (ra 10, .inl (kI, 6, .inl q_goal)), (ra 11, .inl (kI, 1019, .inl q_now)), (ra 14, .inl (kI, 12, .inl q_reach))] t.heap ∧ va_D A [(m0, .inr (11, oX11 ra x0')), (ra 2, .inl (kI, 8, .inl q_told)), (ra 3, .inl (kI, 24, .inl q_kind)), (ra 4, .inl (kI, 24, .inl q_salt)), (ra 8, .inl (kI, 40, .inl q_from)), (ra 9, .inl (kI, 40, .inl q_to)), (ra 10, .inl (kI, 6, .inl q_goal)), (ra 11, .inl (kI, 1019, .inl q_now)), (ra 14, .inl (kI, 12, .inl q_reach))]) A) args0 s 0 0 A) (F0 m 86 ls []) := by
    intro n
    induction n with
    | zero => intro y86_0 v86_loc2 v86_loc3 H locs ls hm86; exact absurd hm86 (Nat.not_lt_zero _)
    | succ n ih86 =>
      intro y86_0 v86_loc2 v86_loc3 H locs ls hm86 hI86_0 h86_2 h86_3 h86_4 hrc_86 hcd9_86 htp_86 hfp_86 hor_86 hirl_86 hP hD hS hl
      refine lv_iload_n hx hb dX11_cover_86 rfl (lv_at hl 3 rfl) ?_
      refine lv_bipush (v := 32) hx hb dX11_cover_87 bp_32 ?_
      refine lv_icmp_ge (tgt := 125) hx hb dX11_cover_89 rfl (fun c1 => ?_) (fun c1 => ?_)
      · have b2 : iv 32 32 v86_loc3 := iv_leR c1 ivk_32 h86_2 (by decide) (by decide)
        refine lv_iload_n hx hb dX11_cover_125 rfl (lv_at hl 2 rfl) ?_
        refine lv_if_ne (tgt := 133) hx hb dX11_cover_126 rfl (fun c3 => ?_) (fun c3 => ?_)
        · refine lv_iconst (v := (-1)) hx hb dX11_cover_133 ic_m1 ?_
          have hP9 := hP
          have hD9 := hD
          exact W.iret (v := (-1)) hx hb hr (fun t ht hW => ⟨⟨(-1), (), rfl, cov_v (cv_x hrc_86.1 (iv_w b2 (by decide) (by decide)) c1 c3), y86_0, hI86_0, (show y86_0 0 = 0 from hcd9_86), (show y86_0 1 = x0 1 from htp_86), (show y86_0 10 = x0 10 from hfp_86), (show y86_0 11 = x0 11 from hor_86), (show y86_0 14 = x0 14 from hirl_86), by rw [ht]; exact hP9, hD9⟩, hS.F ht⟩) hS.2.2 dX11_cover_134
        · have b4 : iv 0 0 v86_loc2 := iv_eqL c3 ivk_0
          refine lv_iconst (v := 0) hx hb dX11_cover_129 ic_0 ?_
          refine lv_goto (tgt := 134) hx hb dX11_cover_130 rfl ?_
          have hP9 := hP
          have hD9 := hD
          exact W.iret (v := 0) hx hb hr (fun t ht hW => ⟨⟨0, (), rfl, cov_v (cw_0 hrc_86.1 hrc_86.2 c3 (wn_32 ((hq_told 1 : iv 0 20 (q_told 1)) : iv 0 20 (q_told 1)))), y86_0, hI86_0, (show y86_0 0 = 0 from hcd9_86), (show y86_0 1 = x0 1 from htp_86), (show y86_0 10 = x0 10 from hfp_86), (show y86_0 11 = x0 11 from hor_86), (show y86_0 14 = x0 14 from hirl_86), by rw [ht]; exact hP9, hD9⟩, hS.F ht⟩) hS.2.2 dX11_cover_134
      · have b5 : iv 0 31 v86_loc3 := iv_ltL (Int32.not_le.mp c1) h86_2 ivk_32 (by decide) (by decide)
        refine lv_iload_n hx hb dX11_cover_92 rfl (lv_at hl 2 rfl) ?_
        refine lv_if_eq (tgt := 125) hx hb dX11_cover_93 rfl (fun c6 => ?_) (fun c6 => ?_)
        · have b7 : iv 0 0 v86_loc2 := iv_eqL c6 ivk_0
          refine lv_iload_n hx hb dX11_cover_125 rfl (lv_at hl 2 rfl) ?_
          refine lv_if_ne (tgt := 133) hx hb dX11_cover_126 rfl (fun c9 => absurd (c6) c9) (fun _ => ?_)
          refine lv_iconst (v := 0) hx hb dX11_cover_129 ic_0 ?_
          refine lv_goto (tgt := 134) hx hb dX11_cover_130 rfl ?_
          have hP9 := hP
          have hD9 := hD
          exact W.iret (v := 0) hx hb hr (fun t ht hW => ⟨⟨0, (), rfl, cov_v (cw_0 hrc_86.1 hrc_86.2 c6 (wn_32 ((hq_told 1 : iv 0 20 (q_told 1)) : iv 0 20 (q_told 1)))), y86_0, hI86_0, (show y86_0 0 = 0 from hcd9_86), (show y86_0 1 = x0 1 from htp_86), (show y86_0 10 = x0 10 from hfp_86), (show y86_0 11 = x0 11 from hor_86), (show y86_0 14 = x0 14 from hirl_86), by rw [ht]; exact hP9, hD9⟩, hS.F ht⟩) hS.2.2 dX11_cover_134
        · refine lv_aload_n hx hb dX11_cover_96 rfl (lv_at hl 0 rfl) ?_
          refine lv_iload_n hx hb dX11_cover_97 rfl (lv_at hl 3 rfl) ?_
          refine lv_iload_n hx hb dX11_cover_98 rfl (lv_at hl 1 rfl) ?_
          obtain ⟨hPc, hDc, hFc, hJn⟩ := cl_a (wc := [(m0, .inr (11, oX11 ra y86_0)), (ra 2, .inl (kI, 8, .inl q_told)), (ra 3, .inl (kI, 24, .inl q_kind)), (ra 4, .inl (kI, 24, .inl q_salt)), (ra 8, .inl (kI, 40, .inl q_from)), (ra 9, .inl (kI, 40, .inl q_to)), (ra 10, .inl (kI, 6, .inl q_goal)), (ra 11, .inl (kI, 1019, .inl q_now)), (ra 14, .inl (kI, 12, .inl q_reach))]) (wr := []) hP hD hS hA [0, 1, 2, 3, 4, 5, 6, 7, 8] [] rfl rfl (by decide +kernel)
          refine va_callv (va_runV (As := [.int v86_loc3, .int p0]) (rest := []) ⟨hx, hb, hml, hown, hts⟩ (s11_wholeWay_x l dC dI kB kI kJ kZ kC kS H.size m0 ra y86_0 q_told q_kind q_salt q_from q_to q_goal q_now q_reach v86_loc3 p0 (hI86_0) (hq_told) (hq_salt) (hq_from) (hq_to) (hq_goal) (hq_now) (b5) (hp0) (hWR) (hTR) (hg) (h86_3) (h86_4)) (cwV 2 hts gX11_cover_X11_wholeWay rfl rfl rfl (by decide +kernel) ⟨Nat.le_of_ble_eq_true rfl, Nat.le_of_ble_eq_true rfl⟩) ⟨fun a U g mk q => by obtain ⟨q0, q1, qP, qE, qD⟩ := q; exact ⟨q0, q1, qP, kE_call qE, qD⟩, va_recv hK hP (ci := 11) (q0 := 0) rfl rfl, fun U hU hW => ⟨rfl, by rw [hU], by rw [hU]; exact hPc, kE_warm hW hE, hDc.weaken (fun _ _ _ _ => trivial)⟩⟩ rfl rfl hl.1 rfl (lv_room (Nat.le_of_ble_eq_true rfl)) dX11_cover_99 ⟨Nat.le_of_ble_eq_true rfl, Nat.le_of_ble_eq_true rfl⟩) hS (fun q _ h => hFc q h) hFc (fun u t H locs ht hvm w9 hB hz1 hk1 hS => ?_)
          obtain ⟨y10, hq11, hq12, hq13, hq14, hq15, hq16, hq17, hP1, hD1⟩ := hB
          try dsimp only at w9
          obtain ⟨hPa, hDa⟩ := hJn (w1 := [(m0, .inr (11, oX11 ra y10)), (ra 2, .inl (kI, 8, .inl q_told)), (ra 3, .inl (kI, 24, .inl q_kind)), (ra 4, .inl (kI, 24, .inl q_salt)), (ra 8, .inl (kI, 40, .inl q_from)), (ra 9, .inl (kI, 40, .inl q_to)), (ra 10, .inl (kI, 6, .inl q_goal)), (ra 11, .inl (kI, 1019, .inl q_now)), (ra 14, .inl (kI, 12, .inl q_reach))]) hk1 ht hP1 hD1
          clear hP hD hPc hDc hFc hJn hP1 hD1 hk1
          have hP : va_P (dC, dI) vwCl [(m0, .inr (11, oX11 ra y10)), (ra 2, .inl (kI, 8, .inl q_told)), (ra 3, .inl (kI, 24, .inl q_kind)), (ra 4, .inl (kI, 24, .inl q_salt)), (ra 8, .inl (kI, 40, .inl q_from)), (ra 9, .inl (kI, 40, .inl q_to)), (ra 10, .inl (kI, 6, .inl q_goal)), (ra 11, .inl (kI, 1019, .inl q_now)), (ra 14, .inl (kI, 12, .inl q_reach))] H := hPa
          have hD : va_D A [(m0, .inr (11, oX11 ra y10)), (ra 2, .inl (kI, 8, .inl q_told)), (ra 3, .inl (kI, 24, .inl q_kind)), (ra 4, .inl (kI, 24, .inl q_salt)), (ra 8, .inl (kI, 40, .inl q_from)), (ra 9, .inl (kI, 40, .inl q_to)), (ra 10, .inl (kI, 6, .inl q_goal)), (ra 11, .inl (kI, 1019, .inl q_now)), (ra 14, .inl (kI, 12, .inl q_reach))] := hDa
          clear hPa hDa
          refine W.widen (k := 0) (n := 0) (Nat.le_of_ble_eq_true rfl) (Nat.le_of_ble_eq_true rfl) ?_
          refine lv_iload_n hx hb dX11_cover_102 rfl (lv_at hl 2 rfl) ?_
          refine lv_aload_n hx hb dX11_cover_103 rfl (lv_at hl 0 rfl) ?_
          refine va_get (D := (dC, dI)) (ci := 11) (v := .int (y10 19)) (C := RX11) (T := TX11) (N := 61) hx hb hts hin11 hown hK hP 0 rfl rfl 41 (Nat.le_of_ble_eq_true rfl) hw_0 (fun _ h9 => h9) rfl dX11_cover_104 ?_
          refine lv_iconst (v := (-1)) hx hb dX11_cover_107 ic_m1 ?_
          refine lv_ixor hx hb dX11_cover_108 ?_
          refine lv_iand hx hb dX11_cover_109 ?_
          refine lv_istore_n (lv' := [(2, .int (v86_loc2 &&& ((y10 19) ^^^ (-1)))), (0, .ref m0), (1, .int p0), (3, .int v86_loc3)]) hx hb dX11_cover_110 rfl hl (Nat.le_of_ble_eq_true rfl) rfl (fun ls hl => ?_)
          refine lv_iload_n hx hb dX11_cover_111 rfl (lv_at hl 0 rfl) ?_
          refine lv_if_ne (tgt := 119) hx hb dX11_cover_112 rfl (fun c18 => ?_) (fun c18 => ?_)
          · refine lv_iinc (v := v86_loc3 + Int32.ofInt 1) (lv' := [(3, .int (v86_loc3 + Int32.ofInt 1)), (2, .int (v86_loc2 &&& ((y10 19) ^^^ (-1)))), (0, .ref m0), (1, .int p0)]) hx hb dX11_cover_119 hl (k := 3) rfl (rfl) (Nat.le_of_ble_eq_true rfl) rfl (fun ls hl => ?_)
            have b19 : iv 1 32 (v86_loc3 + Int32.ofInt 1) := iv_add b5 ivo_1 (by decide) (by decide) (by decide) (by decide)
            refine lv_goto (tgt := 86) hx hb dX11_cover_122 rfl ?_
            exact ih86 y10 (v86_loc2 &&& ((y10 19) ^^^ (-1))) (v86_loc3 + Int32.ofInt 1) _ _ _ (ms_up (c := 1) (d := 0) b5 hm86 (by decide) (iv_inc 1 b5 (by decide) (by decide) (by decide) (by decide)) (by decide) rfl) (hq11) ((iv_w b19 (by decide) (by decide))) ((iv_eqL hq16 h86_3)) ((iv_eqL hq17 h86_4)) ((show CvR (wnt (nF q_from) (nF q_to) (q_told 1).toNatClampNeg (nF q_goal p0.toNatClampNeg)) (fun q9 l9 => wayP (stT (nF q_from) (nF q_to) (q_told 1).toNatClampNeg (nF q_goal p0.toNatClampNeg) (chN q_kind q_salt q_now (nI q9) p0)) (nF q_to) (nF q_goal p0.toNatClampNeg) 12 0 l9) (v86_loc2 &&& ((y10 19) ^^^ (-1))) (v86_loc3 + Int32.ofInt 1).toNatClampNeg ∧ ((v86_loc3 + Int32.ofInt 1 : Int32) = 0 ∨ ¬ (v86_loc2 &&& ((y10 19) ^^^ (-1)) : Int32) = 0) from ⟨cw_s hrc_86.1 b5 c6 (wko_o hq12 b5), Or.inr c18⟩)) ((show y10 0 = 0 from hq13.trans (hcd9_86))) ((show y10 1 = x0 1 from hq14.trans (htp_86))) ((show y10 10 = x0 10 from hq15.trans (hfp_86))) ((show y10 11 = x0 11 from hq16.trans (hor_86))) ((show y10 14 = x0 14 from hq17.trans (hirl_86))) (hP) (hD) hS (lv_sub hl [2, 3, 1, 0] rfl)
          · have b20 : iv 0 0 (v86_loc2 &&& ((y10 19) ^^^ (-1))) := iv_eqL c18 ivk_0
            refine lv_iload_n hx hb dX11_cover_115 rfl (lv_at hl 3 rfl) ?_
            refine lv_iconst (v := 1) hx hb dX11_cover_116 ic_1 ?_
            refine lv_iadd hx hb dX11_cover_117 ?_
            have b21 : iv 1 32 (v86_loc3 + 1) := iv_add b5 ivk_1 (by decide) (by decide) (by decide) (by decide)
            have hP9 := hP
            have hD9 := hD
            exact W.iret (v := v86_loc3 + 1) hx hb hr (fun t ht hW => ⟨⟨v86_loc3 + 1, (), rfl, cov_v (cw_r hrc_86.1 b5 c6 (wko_o hq12 b5) c18 (wn_32 ((hq_told 1 : iv 0 20 (q_told 1)) : iv 0 20 (q_told 1)))), y10, hq11, (show y10 0 = 0 from hq13.trans (hcd9_86)), (show y10 1 = x0 1 from hq14.trans (htp_86)), (show y10 10 = x0 10 from hq15.trans (hfp_86)), (show y10 11 = x0 11 from hq16.trans (hor_86)), (show y10 14 = x0 14 from hq17.trans (hirl_86)), by rw [ht]; exact hP9, hD9⟩, hS.F ht⟩) hS.2.2 dX11_cover_118
  have hJ23 : ∀ (n : Nat) (y23_0 : Nat → Int32) (v23_loc2 : Int32) (v23_loc3 : Int32) (H : Heap) (locs : List Loc) (ls : Array Slot), (20 - v23_loc3.toInt).toNat < n → fI lX11 hX11 y23_0 → iv 0 20 v23_loc3 → iv 0 0 (y23_0 0) → iv (-1) (-1) (y23_0 11) → iv 0 0 (y23_0 14) → (LwR (wnt (nF q_from) (nF q_to) (q_told 1).toNatClampNeg (nF q_goal p0.toNatClampNeg)) v23_loc2 v23_loc3.toNatClampNeg) → (y23_0 0 = 0) → (y23_0 1 = x0 1) → (y23_0 10 = x0 10) → (y23_0 11 = x0 11) → (y23_0 14 = x0 14) → va_P (dC, dI) vwCl [(m0, .inr (11, oX11 ra y23_0)), (ra 2, .inl (kI, 8, .inl q_told)), (ra 3, .inl (kI, 24, .inl q_kind)), (ra 4, .inl (kI, 24, .inl q_salt)), (ra 8, .inl (kI, 40, .inl q_from)), (ra 9, .inl (kI, 40, .inl q_to)), (ra 10, .inl (kI, 6, .inl q_goal)), (ra 11, .inl (kI, 1019, .inl q_now)), (ra 14, .inl (kI, 12, .inl q_reach))] H → va_D A [(m0, .inr (11, oX11 ra y23_0)), (ra 2, .inl (kI, 8, .inl q_told)), (ra 3, .inl (kI, 24, .inl q_kind)), (ra 4, .inl (kI, 24, .inl q_salt)), (ra 8, .inl (kI, 40, .inl q_from)), (ra 9, .inl (kI, 40, .inl q_to)), (ra 10, .inl (kI, 6, .inl q_goal)), (ra 11, .inl (kI, 1019, .inl q_now)), (ra 14, .inl (kI, 12, .inl q_reach))] → va_S A s.heap H locs → lv_has ls 4 [(0, .ref m0), (1, .int p0), (2, .int v23_loc2), (3, .int v23_loc3)] → W p l e (headSpec wsX11_cover rm_s11_cover_in).room s m args0 below meth c H locs (0) (0) (MQ below (va_Qi (fun (r : Int32) (_ : Unit) => r = covS (q_told 1) q_kind q_salt q_from q_to q_goal q_now p0) (fun _ t => ∃ (x0' : Nat → Int32), fI lX11 hX11 x0' ∧ (x0' 0 = 0) ∧ (x0' 1 = x0 1) ∧ (x0' 10 = x0 10) ∧ (x0' 11 = x0 11) ∧ (x0' 14 = x0 14) ∧ va_P (dC, dI) vwCl [(m0, .inr (11, oX11 ra x0')), (ra 2, .inl (kI, 8, .inl q_told)), (ra 3, .inl (kI, 24, .inl q_kind)), (ra 4, .inl (kI, 24, .inl q_salt)), (ra 8, .inl (kI, 40, .inl q_from)), (ra 9, .inl (kI, 40, .inl q_to)), (ra 10, .inl (kI, 6, .inl q_goal)), (ra 11, .inl (kI, 1019, .inl q_now)), (ra 14, .inl (kI, 12, .inl q_reach))] t.heap ∧ va_D A [(m0, .inr (11, oX11 ra x0')), (ra 2, .inl (kI, 8, .inl q_told)), (ra 3, .inl (kI, 24, .inl q_kind)), (ra 4, .inl (kI, 24, .inl q_salt)), (ra 8, .inl (kI, 40, .inl q_from)), (ra 9, .inl (kI, 40, .inl q_to)), (ra 10, .inl (kI, 6, .inl q_goal)), (ra 11, .inl (kI, 1019, .inl q_now)), (ra 14, .inl (kI, 12, .inl q_reach))]) A) args0 s 0 0 A) (F0 m 23 ls []) := by
    intro n
    induction n with
    | zero => intro y23_0 v23_loc2 v23_loc3 H locs ls hm23; exact absurd hm23 (Nat.not_lt_zero _)
    | succ n ih23 =>
      intro y23_0 v23_loc2 v23_loc3 H locs ls hm23 hI23_0 h23_2 h23_3 h23_4 h23_5 hlw_23 hcd9_23 htp_23 hfp_23 hor_23 hirl_23 hP hD hS hl
      refine lv_iload_n hx hb dX11_cover_23 rfl (lv_at hl 3 rfl) ?_
      refine lv_aload_n hx hb dX11_cover_24 rfl (lv_at hl 0 rfl) ?_
      obtain ⟨hPc, hDc, hFc, hJn⟩ := cl_a (wc := [(m0, .inr (11, oX11 ra y23_0)), (ra 2, .inl (kI, 8, .inl q_told))]) (wr := [(ra 3, .inl (kI, 24, .inl q_kind)), (ra 4, .inl (kI, 24, .inl q_salt)), (ra 8, .inl (kI, 40, .inl q_from)), (ra 9, .inl (kI, 40, .inl q_to)), (ra 10, .inl (kI, 6, .inl q_goal)), (ra 11, .inl (kI, 1019, .inl q_now)), (ra 14, .inl (kI, 12, .inl q_reach))]) hP hD hS hA [0, 1] [2, 3, 4, 5, 6, 7, 8] rfl rfl (by decide +kernel)
      refine va_calli (va_runV (As := []) (rest := [.int v23_loc3]) ⟨hx, hb, hml, hown, hts⟩ (s11_links l dC dI kB kI kJ kZ kC kS H.size m0 ra y23_0 q_told (hI23_0) (hq_told)) (cwV 0 hts gX11_cover_X11_links rfl rfl rfl (by decide +kernel) ⟨Nat.le_of_ble_eq_true rfl, Nat.le_of_ble_eq_true rfl⟩) ⟨fun a U g mk q => by obtain ⟨q0, q1, qP, qE, qD⟩ := q; exact ⟨q0, q1, qP, kE_call qE, qD⟩, va_recv hK hP (ci := 11) (q0 := 0) rfl rfl, fun U hU hW => ⟨rfl, by rw [hU], by rw [hU]; exact hPc, kE_warm hW hE, hDc.weaken (fun _ _ _ _ => trivial)⟩⟩ rfl rfl hl.1 rfl (lv_room (Nat.le_of_ble_eq_true rfl)) dX11_cover_25 ⟨Nat.le_of_ble_eq_true rfl, Nat.le_of_ble_eq_true rfl⟩) hS (fun q _ h => hFc q h) hFc (fun r22 u t H locs ht hvm w23 hB hz1 hk1 hS => ?_)
      obtain ⟨hP1, hD1⟩ := hB
      try dsimp only at w23
      obtain ⟨hPa, hDa⟩ := hJn (w1 := [(m0, .inr (11, oX11 ra y23_0)), (ra 2, .inl (kI, 8, .inl q_told))]) hk1 ht hP1 hD1
      clear hP hD hPc hDc hFc hJn hP1 hD1 hk1
      have hP : va_P (dC, dI) vwCl [(ra 3, .inl (kI, 24, .inl q_kind)), (ra 4, .inl (kI, 24, .inl q_salt)), (ra 8, .inl (kI, 40, .inl q_from)), (ra 9, .inl (kI, 40, .inl q_to)), (ra 10, .inl (kI, 6, .inl q_goal)), (ra 11, .inl (kI, 1019, .inl q_now)), (ra 14, .inl (kI, 12, .inl q_reach)), (m0, .inr (11, oX11 ra y23_0)), (ra 2, .inl (kI, 8, .inl q_told))] H := hPa
      have hD : va_D A [(ra 3, .inl (kI, 24, .inl q_kind)), (ra 4, .inl (kI, 24, .inl q_salt)), (ra 8, .inl (kI, 40, .inl q_from)), (ra 9, .inl (kI, 40, .inl q_to)), (ra 10, .inl (kI, 6, .inl q_goal)), (ra 11, .inl (kI, 1019, .inl q_now)), (ra 14, .inl (kI, 12, .inl q_reach)), (m0, .inr (11, oX11 ra y23_0)), (ra 2, .inl (kI, 8, .inl q_told))] := hDa
      clear hPa hDa
      refine W.widen (k := 0) (n := 0) (Nat.le_of_ble_eq_true rfl) (Nat.le_of_ble_eq_true rfl) ?_
      subst w23
      refine lv_icmp_ge (tgt := 84) hx hb dX11_cover_28 rfl (fun c24 => ?_) (fun c24 => ?_)
      · refine lv_iconst (v := 0) hx hb dX11_cover_84 ic_0 ?_
        refine lv_istore_n (lv' := [(3, .int 0), (0, .ref m0), (1, .int p0), (2, .int v23_loc2)]) hx hb dX11_cover_85 rfl hl (Nat.le_of_ble_eq_true rfl) rfl (fun ls hl => ?_)
        have hPD9 := cl_s (wc := [(m0, .inr (11, oX11 ra y23_0)), (ra 2, .inl (kI, 8, .inl q_told)), (ra 3, .inl (kI, 24, .inl q_kind)), (ra 4, .inl (kI, 24, .inl q_salt)), (ra 8, .inl (kI, 40, .inl q_from)), (ra 9, .inl (kI, 40, .inl q_to)), (ra 10, .inl (kI, 6, .inl q_goal)), (ra 11, .inl (kI, 1019, .inl q_now)), (ra 14, .inl (kI, 12, .inl q_reach))]) hP hD [7, 8, 0, 1, 2, 3, 4, 5, 6] rfl (by decide +kernel)
        exact hJ86 _ y23_0 v23_loc2 0 _ _ _ (Nat.lt_succ_self _) (hI23_0) ((iv_w ivk_0 (by decide) (by decide))) (h23_4) (h23_5) ((show CvR (wnt (nF q_from) (nF q_to) (q_told 1).toNatClampNeg (nF q_goal p0.toNatClampNeg)) (fun q9 l9 => wayP (stT (nF q_from) (nF q_to) (q_told 1).toNatClampNeg (nF q_goal p0.toNatClampNeg) (chN q_kind q_salt q_now (nI q9) p0)) (nF q_to) (nF q_goal p0.toNatClampNeg) 12 0 l9) v23_loc2 ((0 : Int32)).toNatClampNeg ∧ ((0 : Int32) = 0 ∨ ¬ (v23_loc2 : Int32) = 0) from ⟨cv_0 (lw_e hlw_23 h23_2 ((hq_told 1 : iv 0 20 (q_told 1)) : iv 0 20 (q_told 1)) c24 (fun l h => h.1)), Or.inl rfl⟩)) ((show y23_0 0 = 0 from hcd9_23)) ((show y23_0 1 = x0 1 from htp_23)) ((show y23_0 10 = x0 10 from hfp_23)) ((show y23_0 11 = x0 11 from hor_23)) ((show y23_0 14 = x0 14 from hirl_23)) (hPD9.1) (hPD9.2) hS (lv_sub hl [1, 2, 3, 0] rfl)
      · have b25 : iv 0 19 v23_loc3 := iv_ltL (Int32.not_le.mp c24) h23_2 (hq_told 1 : iv 0 20 (q_told 1)) (by decide) (by decide)
        have b26 : iv 1 20 (q_told 1) := iv_ltR (Int32.not_le.mp c24) h23_2 (hq_told 1 : iv 0 20 (q_told 1)) (by decide) (by decide)
        refine lv_iload_n hx hb dX11_cover_31 rfl (lv_at hl 2 rfl) ?_
        refine lv_aload_n hx hb dX11_cover_32 rfl (lv_at hl 0 rfl) ?_
        refine va_get (D := (dC, dI)) (ci := 11) (v := .ref (ra 14)) (C := RX11) (T := TX11) (N := 61) hx hb hts hin11 hown hK hP 7 rfl rfl 25 (Nat.le_of_ble_eq_true rfl) hw_1 (fun _ h9 => h9) rfl dX11_cover_33 ?_
        refine lv_aload_n hx hb dX11_cover_36 rfl (lv_at hl 0 rfl) ?_
        refine va_get (D := (dC, dI)) (ci := 11) (v := .ref (ra 8)) (C := RX11) (T := TX11) (N := 61) hx hb hts hin11 hown hK hP 7 rfl rfl 9 (Nat.le_of_ble_eq_true rfl) hw_2 (fun _ h9 => h9) rfl dX11_cover_37 ?_
        refine lv_iload_n hx hb dX11_cover_40 rfl (lv_at hl 3 rfl) ?_
        refine va_iald hx hb hK hP 2 1 rfl rfl (iv_in b25 (by decide) (by decide)) dX11_cover_41 ?_
        have b27 : iv 0 11 (q_from v23_loc3.toNatClampNeg) := hq_from _
        refine va_iald hx hb hK hP 6 1 rfl rfl (iv_in b27 (by decide) (by decide)) dX11_cover_42 ?_
        refine lv_iconst (v := 1) hx hb dX11_cover_43 ic_1 ?_
        refine lv_iand hx hb dX11_cover_44 ?_
        have b28 : iv 0 1 ((q_reach (q_from v23_loc3.toNatClampNeg).toNatClampNeg) &&& 1) := iv_and (m := 1) (by decide) (by decide) (by decide)
        refine lv_iconst (v := 1) hx hb dX11_cover_45 ic_1 ?_
        refine lv_icmp_ne (tgt := 75) hx hb dX11_cover_46 rfl (fun c29 => ?_) (fun c29 => ?_)
        · have b30 : iv 0 0 ((q_reach (q_from v23_loc3.toNatClampNeg).toNatClampNeg) &&& 1) := iv_neHi c29 b28 ivk_1 (by decide) (by decide)
          refine lv_iconst (v := 0) hx hb dX11_cover_75 ic_0 ?_
          refine lv_ior hx hb dX11_cover_76 ?_
          refine lv_istore_n (lv' := [(2, .int (v23_loc2 ||| 0)), (0, .ref m0), (1, .int p0), (3, .int v23_loc3)]) hx hb dX11_cover_77 rfl hl (Nat.le_of_ble_eq_true rfl) rfl (fun ls hl => ?_)
          refine lv_iinc (v := v23_loc3 + Int32.ofInt 1) (lv' := [(3, .int (v23_loc3 + Int32.ofInt 1)), (2, .int (v23_loc2 ||| 0)), (0, .ref m0), (1, .int p0)]) hx hb dX11_cover_78 hl (k := 3) rfl (rfl) (Nat.le_of_ble_eq_true rfl) rfl (fun ls hl => ?_)
          have b31 : iv 1 20 (v23_loc3 + Int32.ofInt 1) := iv_add b25 ivo_1 (by decide) (by decide) (by decide) (by decide)
          refine lv_goto (tgt := 23) hx hb dX11_cover_81 rfl ?_
          have hPD9 := cl_s (wc := [(m0, .inr (11, oX11 ra y23_0)), (ra 2, .inl (kI, 8, .inl q_told)), (ra 3, .inl (kI, 24, .inl q_kind)), (ra 4, .inl (kI, 24, .inl q_salt)), (ra 8, .inl (kI, 40, .inl q_from)), (ra 9, .inl (kI, 40, .inl q_to)), (ra 10, .inl (kI, 6, .inl q_goal)), (ra 11, .inl (kI, 1019, .inl q_now)), (ra 14, .inl (kI, 12, .inl q_reach))]) hP hD [7, 8, 0, 1, 2, 3, 4, 5, 6] rfl (by decide +kernel)
          exact ih23 y23_0 (v23_loc2 ||| 0) (v23_loc3 + Int32.ofInt 1) _ _ _ (ms_up (c := 1) (d := 0) b25 hm23 (by decide) (iv_inc 1 b25 (by decide) (by decide) (by decide) (by decide)) (by decide) rfl) (hI23_0) ((iv_w b31 (by decide) (by decide))) (h23_3) (h23_4) (h23_5) ((show LwR (wnt (nF q_from) (nF q_to) (q_told 1).toNatClampNeg (nF q_goal p0.toNatClampNeg)) (v23_loc2 ||| 0) (v23_loc3 + Int32.ofInt 1).toNatClampNeg from lw_n0 hlw_23 b25 (fun w => c29 ((rl_r hWR hTR ((iv_w b26 (by decide) (by decide)) : iv 0 20 (q_told 1)) b25 (Int32.not_le.mp c24)).mpr w.2.1)))) ((show y23_0 0 = 0 from hcd9_23)) ((show y23_0 1 = x0 1 from htp_23)) ((show y23_0 10 = x0 10 from hfp_23)) ((show y23_0 11 = x0 11 from hor_23)) ((show y23_0 14 = x0 14 from hirl_23)) (hPD9.1) (hPD9.2) hS (lv_sub hl [2, 3, 1, 0] rfl)
        · have b32 : iv 1 1 ((q_reach (q_from v23_loc3.toNatClampNeg).toNatClampNeg) &&& 1) := iv_eqL c29 ivk_1
          refine lv_aload_n hx hb dX11_cover_49 rfl (lv_at hl 0 rfl) ?_
          refine lv_iload_n hx hb dX11_cover_50 rfl (lv_at hl 3 rfl) ?_
          refine lv_aload_n hx hb dX11_cover_51 rfl (lv_at hl 0 rfl) ?_
          refine va_get (D := (dC, dI)) (ci := 11) (v := .ref (ra 8)) (C := RX11) (T := TX11) (N := 61) hx hb hts hin11 hown hK hP 7 rfl rfl 9 (Nat.le_of_ble_eq_true rfl) hw_2 (fun _ h9 => h9) rfl dX11_cover_52 ?_
          refine lv_iload_n hx hb dX11_cover_55 rfl (lv_at hl 3 rfl) ?_
          refine va_iald hx hb hK hP 2 1 rfl rfl (iv_in b25 (by decide) (by decide)) dX11_cover_56 ?_
          refine lv_aload_n hx hb dX11_cover_57 rfl (lv_at hl 0 rfl) ?_
          refine va_get (D := (dC, dI)) (ci := 11) (v := .ref (ra 10)) (C := RX11) (T := TX11) (N := 61) hx hb hts hin11 hown hK hP 7 rfl rfl 11 (Nat.le_of_ble_eq_true rfl) hw_3 (fun _ h9 => h9) rfl dX11_cover_58 ?_
          refine lv_iload_n hx hb dX11_cover_61 rfl (lv_at hl 1 rfl) ?_
          refine va_iald hx hb hK hP 4 1 rfl rfl (iv_in hp0 (by decide) (by decide)) dX11_cover_62 ?_
          have b33 : iv 0 11 (q_goal p0.toNatClampNeg) := hq_goal _
          obtain ⟨hPc, hDc, hFc, hJn⟩ := cl_a (wc := [(m0, .inr (11, oX11 ra y23_0)), (ra 2, .inl (kI, 8, .inl q_told)), (ra 8, .inl (kI, 40, .inl q_from)), (ra 9, .inl (kI, 40, .inl q_to)), (ra 14, .inl (kI, 12, .inl q_reach))]) (wr := [(ra 3, .inl (kI, 24, .inl q_kind)), (ra 4, .inl (kI, 24, .inl q_salt)), (ra 10, .inl (kI, 6, .inl q_goal)), (ra 11, .inl (kI, 1019, .inl q_now))]) hP hD hS hA [7, 8, 2, 3, 6] [0, 1, 4, 5] rfl rfl (by decide +kernel)
          refine va_calli (va_runV (As := [.int v23_loc3, .int (q_from v23_loc3.toNatClampNeg), .int (q_goal p0.toNatClampNeg)]) (rest := [.int v23_loc2]) ⟨hx, hb, hml, hown, hts⟩ (s11_isBranch_x l dC dI kB kI kJ kZ kC kS H.size m0 ra y23_0 q_told q_from q_to q_reach v23_loc3 (q_from v23_loc3.toNatClampNeg) (q_goal p0.toNatClampNeg) (hI23_0) (hq_told) (hq_from) (hq_to) (b25) (b27) (b33) (hTR) ((hWR.2.2.1 _ (kl_lt hp0 ((hq_told 2 : iv 0 3 (q_told 2)) : iv 0 3 (q_told 2)) hg)))) (cwV 3 hts gX11_cover_X11_isBranch rfl rfl rfl (by decide +kernel) ⟨Nat.le_of_ble_eq_true rfl, Nat.le_of_ble_eq_true rfl⟩) ⟨fun a U g mk q => by obtain ⟨q0, q1, qP, qE, qD⟩ := q; exact ⟨q0, q1, qP, kE_call qE, qD⟩, va_recv hK hP (ci := 11) (q0 := 7) rfl rfl, fun U hU hW => ⟨rfl, by rw [hU], by rw [hU]; exact hPc, kE_warm hW hE, hDc.weaken (fun _ _ _ _ => trivial)⟩⟩ rfl rfl hl.1 rfl (lv_room (Nat.le_of_ble_eq_true rfl)) dX11_cover_63 ⟨Nat.le_of_ble_eq_true rfl, Nat.le_of_ble_eq_true rfl⟩) hS (fun q _ h => hFc q h) hFc (fun r34 u t H locs ht hvm w35 hB hz1 hk1 hS => ?_)
          obtain ⟨hP1, hD1⟩ := hB
          try dsimp only at w35
          obtain ⟨hPa, hDa⟩ := hJn (w1 := [(m0, .inr (11, oX11 ra y23_0)), (ra 2, .inl (kI, 8, .inl q_told)), (ra 8, .inl (kI, 40, .inl q_from)), (ra 9, .inl (kI, 40, .inl q_to)), (ra 14, .inl (kI, 12, .inl q_reach))]) hk1 ht hP1 hD1
          clear hP hD hPc hDc hFc hJn hP1 hD1 hk1
          have hP : va_P (dC, dI) vwCl [(ra 3, .inl (kI, 24, .inl q_kind)), (ra 4, .inl (kI, 24, .inl q_salt)), (ra 10, .inl (kI, 6, .inl q_goal)), (ra 11, .inl (kI, 1019, .inl q_now)), (m0, .inr (11, oX11 ra y23_0)), (ra 2, .inl (kI, 8, .inl q_told)), (ra 8, .inl (kI, 40, .inl q_from)), (ra 9, .inl (kI, 40, .inl q_to)), (ra 14, .inl (kI, 12, .inl q_reach))] H := hPa
          have hD : va_D A [(ra 3, .inl (kI, 24, .inl q_kind)), (ra 4, .inl (kI, 24, .inl q_salt)), (ra 10, .inl (kI, 6, .inl q_goal)), (ra 11, .inl (kI, 1019, .inl q_now)), (m0, .inr (11, oX11 ra y23_0)), (ra 2, .inl (kI, 8, .inl q_told)), (ra 8, .inl (kI, 40, .inl q_from)), (ra 9, .inl (kI, 40, .inl q_to)), (ra 14, .inl (kI, 12, .inl q_reach))] := hDa
          clear hPa hDa
          refine W.widen (k := 0) (n := 0) (Nat.le_of_ble_eq_true rfl) (Nat.le_of_ble_eq_true rfl) ?_
          refine lv_if_eq (tgt := 75) hx hb dX11_cover_66 rfl (fun c36 => ?_) (fun c36 => ?_)
          · have b37 : iv 0 0 r34 := iv_eqL c36 ivk_0
            refine lv_iconst (v := 0) hx hb dX11_cover_75 ic_0 ?_
            refine lv_ior hx hb dX11_cover_76 ?_
            refine lv_istore_n (lv' := [(2, .int (v23_loc2 ||| 0)), (0, .ref m0), (1, .int p0), (3, .int v23_loc3)]) hx hb dX11_cover_77 rfl hl (Nat.le_of_ble_eq_true rfl) rfl (fun ls hl => ?_)
            refine lv_iinc (v := v23_loc3 + Int32.ofInt 1) (lv' := [(3, .int (v23_loc3 + Int32.ofInt 1)), (2, .int (v23_loc2 ||| 0)), (0, .ref m0), (1, .int p0)]) hx hb dX11_cover_78 hl (k := 3) rfl (rfl) (Nat.le_of_ble_eq_true rfl) rfl (fun ls hl => ?_)
            have b38 : iv 1 20 (v23_loc3 + Int32.ofInt 1) := iv_add b25 ivo_1 (by decide) (by decide) (by decide) (by decide)
            refine lv_goto (tgt := 23) hx hb dX11_cover_81 rfl ?_
            have hPD9 := cl_s (wc := [(m0, .inr (11, oX11 ra y23_0)), (ra 2, .inl (kI, 8, .inl q_told)), (ra 3, .inl (kI, 24, .inl q_kind)), (ra 4, .inl (kI, 24, .inl q_salt)), (ra 8, .inl (kI, 40, .inl q_from)), (ra 9, .inl (kI, 40, .inl q_to)), (ra 10, .inl (kI, 6, .inl q_goal)), (ra 11, .inl (kI, 1019, .inl q_now)), (ra 14, .inl (kI, 12, .inl q_reach))]) hP hD [4, 5, 0, 1, 6, 7, 2, 3, 8] rfl (by decide +kernel)
            exact ih23 y23_0 (v23_loc2 ||| 0) (v23_loc3 + Int32.ofInt 1) _ _ _ (ms_up (c := 1) (d := 0) b25 hm23 (by decide) (iv_inc 1 b25 (by decide) (by decide) (by decide) (by decide)) (by decide) rfl) (hI23_0) ((iv_w b38 (by decide) (by decide))) (h23_3) (h23_4) (h23_5) ((show LwR (wnt (nF q_from) (nF q_to) (q_told 1).toNatClampNeg (nF q_goal p0.toNatClampNeg)) (v23_loc2 ||| 0) (v23_loc3 + Int32.ofInt 1).toNatClampNeg from lw_n0 hlw_23 b25 (fun w => (ib_n w35.2 c36) ⟨rfl, w.2.2⟩))) ((show y23_0 0 = 0 from hcd9_23)) ((show y23_0 1 = x0 1 from htp_23)) ((show y23_0 10 = x0 10 from hfp_23)) ((show y23_0 11 = x0 11 from hor_23)) ((show y23_0 14 = x0 14 from hirl_23)) (hPD9.1) (hPD9.2) hS (lv_sub hl [2, 3, 1, 0] rfl)
          · have b39 : iv 1 1 r34 := iv_neLo c36 w35.1 ivk_0 (by decide) (by decide)
            refine lv_iconst (v := 1) hx hb dX11_cover_69 ic_1 ?_
            refine lv_iload_n hx hb dX11_cover_70 rfl (lv_at hl 3 rfl) ?_
            refine lv_ishl hx hb dX11_cover_71 ?_
            have b40 : iv 0 524288 (1 <<< ((v23_loc3 : Int32) &&& 31)) := iv_shl1 19 b25 (by decide) (by decide) (by decide) (by decide)
            refine lv_goto (tgt := 76) hx hb dX11_cover_72 rfl ?_
            refine lv_ior hx hb dX11_cover_76 ?_
            refine lv_istore_n (lv' := [(2, .int (v23_loc2 ||| (1 <<< ((v23_loc3 : Int32) &&& 31)))), (0, .ref m0), (1, .int p0), (3, .int v23_loc3)]) hx hb dX11_cover_77 rfl hl (Nat.le_of_ble_eq_true rfl) rfl (fun ls hl => ?_)
            refine lv_iinc (v := v23_loc3 + Int32.ofInt 1) (lv' := [(3, .int (v23_loc3 + Int32.ofInt 1)), (2, .int (v23_loc2 ||| (1 <<< ((v23_loc3 : Int32) &&& 31)))), (0, .ref m0), (1, .int p0)]) hx hb dX11_cover_78 hl (k := 3) rfl (rfl) (Nat.le_of_ble_eq_true rfl) rfl (fun ls hl => ?_)
            have b41 : iv 1 20 (v23_loc3 + Int32.ofInt 1) := iv_add b25 ivo_1 (by decide) (by decide) (by decide) (by decide)
            refine lv_goto (tgt := 23) hx hb dX11_cover_81 rfl ?_
            have hPD9 := cl_s (wc := [(m0, .inr (11, oX11 ra y23_0)), (ra 2, .inl (kI, 8, .inl q_told)), (ra 3, .inl (kI, 24, .inl q_kind)), (ra 4, .inl (kI, 24, .inl q_salt)), (ra 8, .inl (kI, 40, .inl q_from)), (ra 9, .inl (kI, 40, .inl q_to)), (ra 10, .inl (kI, 6, .inl q_goal)), (ra 11, .inl (kI, 1019, .inl q_now)), (ra 14, .inl (kI, 12, .inl q_reach))]) hP hD [4, 5, 0, 1, 6, 7, 2, 3, 8] rfl (by decide +kernel)
            exact ih23 y23_0 (v23_loc2 ||| (1 <<< ((v23_loc3 : Int32) &&& 31))) (v23_loc3 + Int32.ofInt 1) _ _ _ (ms_up (c := 1) (d := 0) b25 hm23 (by decide) (iv_inc 1 b25 (by decide) (by decide) (by decide) (by decide)) (by decide) rfl) (hI23_0) ((iv_w b41 (by decide) (by decide))) (h23_3) (h23_4) (h23_5) ((show LwR (wnt (nF q_from) (nF q_to) (q_told 1).toNatClampNeg (nF q_goal p0.toNatClampNeg)) (v23_loc2 ||| (1 <<< ((v23_loc3 : Int32) &&& 31))) (v23_loc3 + Int32.ofInt 1).toNatClampNeg from lw_y hlw_23 b25 ⟨(kl_lt (b25 : iv 0 19 v23_loc3) ((iv_w b26 (by decide) (by decide)) : iv 0 20 (q_told 1)) (Int32.not_le.mp c24)), (rl_r hWR hTR ((iv_w b26 (by decide) (by decide)) : iv 0 20 (q_told 1)) b25 (Int32.not_le.mp c24)).mp c29, (ib_y w35.2 c36).2⟩)) ((show y23_0 0 = 0 from hcd9_23)) ((show y23_0 1 = x0 1 from htp_23)) ((show y23_0 10 = x0 10 from hfp_23)) ((show y23_0 11 = x0 11 from hor_23)) ((show y23_0 14 = x0 14 from hirl_23)) (hPD9.1) (hPD9.2) hS (lv_sub hl [2, 3, 1, 0] rfl)
  refine lv_aload_n hx hb dX11_cover_0 rfl (lv_at hl 0 rfl) ?_
  refine lv_iconst (v := 0) hx hb dX11_cover_1 ic_0 ?_
  refine va_put (D := (dC, dI)) (ci := 11) (v := .int 0) (ty := .int) (C := RX11) (T := TX11) (N := 61) hx hb hts hin11 tyX11 tyX11_ok nmX11 hown hK hP hD hS 0 rfl rfl 2 (by decide) hw_4 (fun _ h9 => h9) rfl (by decide +kernel) rfl rfl (Nat.le_of_ble_eq_true rfl) dX11_cover_2 (fun H locs hPa hDa hS => ?_)
  clear hP hD
  have hP : va_P (dC, dI) vwCl [(m0, .inr (11, oX11 ra (upd x0 0 0))), (ra 2, .inl (kI, 8, .inl q_told)), (ra 3, .inl (kI, 24, .inl q_kind)), (ra 4, .inl (kI, 24, .inl q_salt)), (ra 8, .inl (kI, 40, .inl q_from)), (ra 9, .inl (kI, 40, .inl q_to)), (ra 10, .inl (kI, 6, .inl q_goal)), (ra 11, .inl (kI, 1019, .inl q_now)), (ra 14, .inl (kI, 12, .inl q_reach))] H := hPa
  have hD : va_D A [(m0, .inr (11, oX11 ra (upd x0 0 0))), (ra 2, .inl (kI, 8, .inl q_told)), (ra 3, .inl (kI, 24, .inl q_kind)), (ra 4, .inl (kI, 24, .inl q_salt)), (ra 8, .inl (kI, 40, .inl q_from)), (ra 9, .inl (kI, 40, .inl q_to)), (ra 10, .inl (kI, 6, .inl q_goal)), (ra 11, .inl (kI, 1019, .inl q_now)), (ra 14, .inl (kI, 12, .inl q_reach))] := hDa
  clear hPa hDa
  refine lv_aload_n hx hb dX11_cover_5 rfl (lv_at hl 0 rfl) ?_
  refine lv_iload_n hx hb dX11_cover_6 rfl (lv_at hl 1 rfl) ?_
  obtain ⟨hPc, hDc, hFc, hJn⟩ := cl_a (wc := [(m0, .inr (11, oX11 ra (upd x0 0 0))), (ra 2, .inl (kI, 8, .inl q_told))]) (wr := [(ra 3, .inl (kI, 24, .inl q_kind)), (ra 4, .inl (kI, 24, .inl q_salt)), (ra 8, .inl (kI, 40, .inl q_from)), (ra 9, .inl (kI, 40, .inl q_to)), (ra 10, .inl (kI, 6, .inl q_goal)), (ra 11, .inl (kI, 1019, .inl q_now)), (ra 14, .inl (kI, 12, .inl q_reach))]) hP hD hS hA [0, 1] [2, 3, 4, 5, 6, 7, 8] rfl rfl (by decide +kernel)
  refine va_calli (va_runV (As := [.int p0]) (rest := []) ⟨hx, hb, hml, hown, hts⟩ (s11_isGoal_in l dC dI kB kI kJ kZ kC kS H.size m0 ra (upd x0 0 0) q_told p0 ((fI_u hX (k := 0) ((iv_w ivk_0 (by decide) (by decide))))) (hq_told) (hp0) (hg)) (cwV 1 hts gX11_cover_X11_isGoal rfl rfl rfl (by decide +kernel) ⟨Nat.le_of_ble_eq_true rfl, Nat.le_of_ble_eq_true rfl⟩) ⟨fun a U g mk q => by obtain ⟨q0, q1, qP, qE, qD⟩ := q; exact ⟨q0, q1, qP, kE_call qE, qD⟩, va_recv hK hP (ci := 11) (q0 := 0) rfl rfl, fun U hU hW => ⟨rfl, by rw [hU], by rw [hU]; exact hPc, kE_warm hW hE, hDc.weaken (fun _ _ _ _ => trivial)⟩⟩ rfl rfl hl.1 rfl (lv_room (Nat.le_of_ble_eq_true rfl)) dX11_cover_7 ⟨Nat.le_of_ble_eq_true rfl, Nat.le_of_ble_eq_true rfl⟩) hS (fun q _ h => hFc q h) hFc (fun r42 u t H locs ht hvm w43 hB hz1 hk1 hS => ?_)
  obtain ⟨hP1, hD1⟩ := hB
  try dsimp only at w43
  obtain ⟨hPa, hDa⟩ := hJn (w1 := [(m0, .inr (11, oX11 ra (upd x0 0 0))), (ra 2, .inl (kI, 8, .inl q_told))]) hk1 ht hP1 hD1
  clear hP hD hPc hDc hFc hJn hP1 hD1 hk1
  have hP : va_P (dC, dI) vwCl [(ra 3, .inl (kI, 24, .inl q_kind)), (ra 4, .inl (kI, 24, .inl q_salt)), (ra 8, .inl (kI, 40, .inl q_from)), (ra 9, .inl (kI, 40, .inl q_to)), (ra 10, .inl (kI, 6, .inl q_goal)), (ra 11, .inl (kI, 1019, .inl q_now)), (ra 14, .inl (kI, 12, .inl q_reach)), (m0, .inr (11, oX11 ra (upd x0 0 0))), (ra 2, .inl (kI, 8, .inl q_told))] H := hPa
  have hD : va_D A [(ra 3, .inl (kI, 24, .inl q_kind)), (ra 4, .inl (kI, 24, .inl q_salt)), (ra 8, .inl (kI, 40, .inl q_from)), (ra 9, .inl (kI, 40, .inl q_to)), (ra 10, .inl (kI, 6, .inl q_goal)), (ra 11, .inl (kI, 1019, .inl q_now)), (ra 14, .inl (kI, 12, .inl q_reach)), (m0, .inr (11, oX11 ra (upd x0 0 0))), (ra 2, .inl (kI, 8, .inl q_told))] := hDa
  clear hPa hDa
  refine W.widen (k := 0) (n := 0) (Nat.le_of_ble_eq_true rfl) (Nat.le_of_ble_eq_true rfl) ?_
  obtain rfl : r42 = 1 := iv_one w43 (by decide)
  refine lv_if_ne (tgt := 19) hx hb dX11_cover_10 rfl (fun _ => ?_) (fun c9 => absurd c9 (by decide))
  refine lv_iconst (v := 0) hx hb dX11_cover_19 ic_0 ?_
  refine lv_istore_n (lv' := [(2, .int 0), (0, .ref m0), (1, .int p0)]) hx hb dX11_cover_20 rfl hl (Nat.le_of_ble_eq_true rfl) rfl (fun ls hl => ?_)
  refine lv_iconst (v := 0) hx hb dX11_cover_21 ic_0 ?_
  refine lv_istore_n (lv' := [(3, .int 0), (2, .int 0), (0, .ref m0), (1, .int p0)]) hx hb dX11_cover_22 rfl hl (Nat.le_of_ble_eq_true rfl) rfl (fun ls hl => ?_)
  have hPD9 := cl_s (wc := [(m0, .inr (11, oX11 ra (upd x0 0 0))), (ra 2, .inl (kI, 8, .inl q_told)), (ra 3, .inl (kI, 24, .inl q_kind)), (ra 4, .inl (kI, 24, .inl q_salt)), (ra 8, .inl (kI, 40, .inl q_from)), (ra 9, .inl (kI, 40, .inl q_to)), (ra 10, .inl (kI, 6, .inl q_goal)), (ra 11, .inl (kI, 1019, .inl q_now)), (ra 14, .inl (kI, 12, .inl q_reach))]) hP hD [7, 8, 0, 1, 2, 3, 4, 5, 6] rfl (by decide +kernel)
  exact hJ23 _ (upd x0 0 0) 0 0 _ _ _ (Nat.lt_succ_self _) ((fI_u hX (k := 0) ((iv_w ivk_0 (by decide) (by decide))))) ((iv_w ivk_0 (by decide) (by decide))) (ivk_0) (hfl11) (hfl14) ((show LwR (wnt (nF q_from) (nF q_to) (q_told 1).toNatClampNeg (nF q_goal p0.toNatClampNeg)) 0 ((0 : Int32)).toNatClampNeg from lw_0)) ((show 0 = 0 from rfl)) ((show x0 1 = x0 1 from rfl)) ((show x0 10 = x0 10 from rfl)) ((show x0 11 = x0 11 from rfl)) ((show x0 14 = x0 14 from rfl)) (hPD9.1) (hPD9.2) hS (lv_sub hl [2, 3, 1, 0] rfl)
def rm_s11_takeHalf_saltx : Room := { frames := 0, cells := 0, slots := 0, locals := 0 }
set_option maxHeartbeats 4000000 in
set_option maxRecDepth 100000 in
theorem s11_takeHalf_saltx (l : Launch) (dC : Nat → ClassId) (dI : Nat → Nat → Nat) (kB kI kJ kZ kC kS : ClassId) (sz : Nat) (b0 : Nat) (fr : Nat → Int32) (hfr : fI (fun _ => 0) (fun _ => 15) fr) : Met l yX11_takeHalf wsX11_takeHalf rm_s11_takeHalf_saltx (va_Pc [.ref b0] (fun U => U.heap.size = sz ∧ va_P (dC, dI) vwCl [(b0, .inl (kI, 24, .inl fr))] U.heap ∧ kE dC dI kB kI kJ kZ kC kS U ∧ va_D (fun _ => True) [(b0, .inl (kI, 24, .inl fr))])) (va_Qv (fun (_ : Unit) => True) (fun _ t => ∃ (fr' : Nat → Int32), fI (fun _ => 0) (fun _ => 15) fr' ∧ (∀ j : Nat, j < 12 → fr' j = fr (12 + j)) ∧ (∀ j : Nat, 12 ≤ j → fr' j = fr j) ∧ va_P (dC, dI) vwCl [(b0, .inl (kI, 24, .inl fr'))] t.heap ∧ va_D (va_A [(b0, .inl (kI, 24, .inl fr))] sz) [(b0, .inl (kI, 24, .inl fr'))]) (va_A [(b0, .inl (kI, 24, .inl fr))] sz)) 0 0 (va_A [(b0, .inl (kI, 24, .inl fr))] sz) := by
  refine Met.ofW (cc := cX11_takeHalf) (maxL := 2) (ret := none) (by decide) rfl ?_
  intro p e s m args0 below meth c s₁ B hml hv
  obtain ⟨hargs, hsz, hP, hE, hD0⟩ := hv
  have hx := B.exec
  have hb := B.bytes
  have hr := B.returns
  have hts := atoms_spec (ws := wsX11_takeHalf) B.pre
  have hown : s.vm.findClass RX11 = some m.cls := findClass_of_methodNamed B.named
  have hlocks := B.notSynchronized
  have hK := hE.1
  subst hsz
  have hD := hD0.self (sz := s.heap.size)
  generalize hAe : va_A [(b0, .inl (kI, 24, .inl fr))] s.heap.size = A at hD ⊢
  have hA : ∀ q : Nat, s.heap.size ≤ q → A q := fun q h => by rw [← hAe]; exact Or.inr h
  have hS : va_S A s.heap s.heap [] := va_S.rf
  have hP : va_P (dC, dI) vwCl [(b0, .inl (kI, 24, .inl fr))] s.heap := hP
  have hl := lv_entry ([.ref b0]) (n := 2) (Nat.le_of_ble_eq_true rfl)
  have hla : entryFrame m args0 2 = entryFrame m ([.ref b0] : List Value).toArray 2 := by rw [hargs]
  rw [hla, lg_entry_eq]
  generalize (lg_sl ([.ref b0]) ++ List.replicate (2 - (lg_sl ([.ref b0])).length) Slot.unset).toArray = ls at hl ⊢
  have hl : lv_has ls 2 [(0, .ref b0)] := hl
  have hJ2 : ∀ (n : Nat) (g2_0 : Nat → Int32) (v2_loc1 : Int32) (H : Heap) (locs : List Loc) (ls : Array Slot), (12 - v2_loc1.toInt).toNat < n → fI (fun _ => 0) (fun _ => 15) g2_0 → iv 0 12 v2_loc1 → ((∀ j : Nat, (j : Int) < v2_loc1.toInt → g2_0 j = fr (12 + j)) ∧ ∀ j : Nat, v2_loc1.toInt ≤ (j : Int) → g2_0 j = fr j) → va_P (dC, dI) vwCl [(b0, .inl (kI, 24, .inl g2_0))] H → va_D A [(b0, .inl (kI, 24, .inl g2_0))] → va_S A s.heap H locs → lv_has ls 2 [(0, .ref b0), (1, .int v2_loc1)] → W p l e (headSpec wsX11_takeHalf rm_s11_takeHalf_saltx).room s m args0 below meth c H locs (0) (0) (MQ below (va_Qv (fun (_ : Unit) => True) (fun _ t => ∃ (fr' : Nat → Int32), fI (fun _ => 0) (fun _ => 15) fr' ∧ (∀ j : Nat, j < 12 → fr' j = fr (12 + j)) ∧ (∀ j : Nat, 12 ≤ j → fr' j = fr j) ∧ va_P (dC, dI) vwCl [(b0, .inl (kI, 24, .inl fr'))] t.heap ∧ va_D A [(b0, .inl (kI, 24, .inl fr'))]) A) args0 s 0 0 A) (F0 m 2 ls []) := by
    intro n
    induction n with
    | zero => intro g2_0 v2_loc1 H locs ls hm2; exact absurd hm2 (Nat.not_lt_zero _)
    | succ n ih2 =>
      intro g2_0 v2_loc1 H locs ls hm2 hI2_0 h2_2 hha_2 hP hD hS hl
      refine lv_iload_n hx hb dX11_takeHalf_2 rfl (lv_at hl 1 rfl) ?_
      refine lv_aload_n hx hb dX11_takeHalf_3 rfl (lv_at hl 0 rfl) ?_
      refine va_alen (v := 24) hx hb hK hP 0 1 rfl rfl rfl dX11_takeHalf_4 ?_
      refine lv_iconst (v := 2) hx hb dX11_takeHalf_5 ic_2 ?_
      refine lv_idiv hx hb dX11_takeHalf_6 (by decide) ?_
      refine lv_topi (fun z1 e2 => ?_)
      obtain rfl : z1 = (12 : Int32) := e2.trans (by decide)
      refine lv_icmp_ge (tgt := 27) hx hb dX11_takeHalf_7 rfl (fun c3 => ?_) (fun c3 => ?_)
      · have b4 : iv 12 12 v2_loc1 := iv_leR c3 ivk_12 h2_2 (by decide) (by decide)
        have hP9 := hP
        have hD9 := hD
        exact W.vret hx hb hr (fun t ht hW => ⟨⟨(), rfl, trivial, g2_0, hI2_0, (show ∀ j : Nat, j < 12 → g2_0 j = fr (12 + j) from fun j hj => hha_2.1 j (by have q := c3; have q2 := Int32.le_iff_toInt_le.mp q; rw [show ((12 : Int32)).toInt = 12 from by decide] at q2; omega)), (show ∀ j : Nat, 12 ≤ j → g2_0 j = fr j from fun j hj => hha_2.2 j (by have q := b4; have q2 := q.2; omega)), by rw [ht]; exact hP9, hD9⟩, hS.F ht⟩) hS.2.2 dX11_takeHalf_27
      · have b5 : iv 0 11 v2_loc1 := iv_ltL (Int32.not_le.mp c3) h2_2 ivk_12 (by decide) (by decide)
        refine lv_aload_n hx hb dX11_takeHalf_10 rfl (lv_at hl 0 rfl) ?_
        refine lv_iload_n hx hb dX11_takeHalf_11 rfl (lv_at hl 1 rfl) ?_
        refine lv_aload_n hx hb dX11_takeHalf_12 rfl (lv_at hl 0 rfl) ?_
        refine lv_aload_n hx hb dX11_takeHalf_13 rfl (lv_at hl 0 rfl) ?_
        refine va_alen (v := 24) hx hb hK hP 0 1 rfl rfl rfl dX11_takeHalf_14 ?_
        refine lv_iconst (v := 2) hx hb dX11_takeHalf_15 ic_2 ?_
        refine lv_idiv hx hb dX11_takeHalf_16 (by decide) ?_
        refine lv_topi (fun z6 e7 => ?_)
        obtain rfl : z6 = (12 : Int32) := e7.trans (by decide)
        refine lv_iload_n hx hb dX11_takeHalf_17 rfl (lv_at hl 1 rfl) ?_
        refine lv_iadd hx hb dX11_takeHalf_18 ?_
        have b8 : iv 12 23 (12 + v2_loc1) := iv_add ivk_12 b5 (by decide) (by decide) (by decide) (by decide)
        refine va_iald hx hb hK hP 0 1 rfl rfl (iv_in b8 (by decide) (by decide)) dX11_takeHalf_19 ?_
        have b9 : iv 0 15 (g2_0 (12 + v2_loc1).toNatClampNeg) := hI2_0 _
        refine va_iast hx hb hK hP hD hS 0 1 rfl rfl (iv_in b5 (by decide) (by decide)) dX11_takeHalf_20 (fun H locs hPa hDa hS => ?_)
        clear hP hD
        have hP : va_P (dC, dI) vwCl [(b0, .inl (kI, 24, .inl (upd g2_0 v2_loc1.toNatClampNeg (g2_0 (12 + v2_loc1).toNatClampNeg))))] H := hPa
        have hD : va_D A [(b0, .inl (kI, 24, .inl (upd g2_0 v2_loc1.toNatClampNeg (g2_0 (12 + v2_loc1).toNatClampNeg))))] := hDa
        clear hPa hDa
        have hf11 : fI (fun _ => 0) (fun _ => 15) (upd g2_0 v2_loc1.toNatClampNeg (g2_0 (12 + v2_loc1).toNatClampNeg)) := fI_u hI2_0 (hI2_0 _)
        have hxa : (∀ j : Nat, (j : Int) < (v2_loc1 + Int32.ofInt 1).toInt → (upd g2_0 v2_loc1.toNatClampNeg (g2_0 (12 + v2_loc1).toNatClampNeg)) j = fr (12 + j)) ∧ ∀ j : Nat, (v2_loc1 + Int32.ofInt 1).toInt ≤ (j : Int) → (upd g2_0 v2_loc1.toNatClampNeg (g2_0 (12 + v2_loc1).toNatClampNeg)) j = fr j := half_st hha_2 b5 (by decide) (by decide)
        generalize (upd g2_0 v2_loc1.toNatClampNeg (g2_0 (12 + v2_loc1).toNatClampNeg)) = f10 at hP hD hf11 hxa
        refine lv_iinc (v := v2_loc1 + Int32.ofInt 1) (lv' := [(1, .int (v2_loc1 + Int32.ofInt 1)), (0, .ref b0)]) hx hb dX11_takeHalf_21 hl (k := 1) rfl (rfl) (Nat.le_of_ble_eq_true rfl) rfl (fun ls hl => ?_)
        have b12 : iv 1 12 (v2_loc1 + Int32.ofInt 1) := iv_add b5 ivo_1 (by decide) (by decide) (by decide) (by decide)
        refine lv_goto (tgt := 2) hx hb dX11_takeHalf_24 rfl ?_
        exact ih2 f10 (v2_loc1 + Int32.ofInt 1) _ _ _ (ms_up (c := 1) (d := 0) b5 hm2 (by decide) (iv_inc 1 b5 (by decide) (by decide) (by decide) (by decide)) (by decide) rfl) (hf11) ((iv_w b12 (by decide) (by decide))) ((show (∀ j : Nat, (j : Int) < (v2_loc1 + Int32.ofInt 1).toInt → f10 j = fr (12 + j)) ∧ ∀ j : Nat, (v2_loc1 + Int32.ofInt 1).toInt ≤ (j : Int) → f10 j = fr j from hxa)) (hP) (hD) hS (lv_sub hl [1, 0] rfl)
  refine lv_iconst (v := 0) hx hb dX11_takeHalf_0 ic_0 ?_
  refine lv_istore_n (lv' := [(1, .int 0), (0, .ref b0)]) hx hb dX11_takeHalf_1 rfl hl (Nat.le_of_ble_eq_true rfl) rfl (fun ls hl => ?_)
  exact hJ2 _ fr 0 _ _ _ (Nat.lt_succ_self _) (hfr) ((iv_w ivk_0 (by decide) (by decide))) ((show (∀ j : Nat, (j : Int) < ((0 : Int32)).toInt → fr j = fr (12 + j)) ∧ ∀ j : Nat, ((0 : Int32)).toInt ≤ (j : Int) → fr j = fr j from half_0)) (hP) (hD) hS (lv_sub hl [1, 0] rfl)
