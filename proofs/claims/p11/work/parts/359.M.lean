def rm_s10_missing_5 : Room := { frames := 2, cells := 0, slots := 0, locals := 47 }
set_option maxHeartbeats 4000000 in
set_option maxRecDepth 100000 in
theorem s10_missing_5 (l : Launch) (dC : Nat → ClassId) (dI : Nat → Nat → Nat) (kB kI kJ kZ kC kS : ClassId) (sz : Nat) (op : Nat) (ot : Nat) (on : Nat) (dn : Nat) (rd : Nat) (oc : Nat) (d : Nat) (o : Nat) (si : Nat) (w : Nat) (se : Nat) (nb : Nat) (hi : Nat) (p_status : Nat) (oe : Nat) (ih : Nat) (mb : Nat) (p_imageStatus : Nat) (x_p : Nat → Int32) (o_met : Nat) (o_enough : Nat) (x_o : Nat → Int32) (f_o_met : Nat → Int64) (k : Nat) (hk : k ≤ 60) : Met l yX10_missing wsX10_missing rm_s10_missing_5 (va_Pc [.ref op, .int (nI k), .int 5] (fun U => U.heap.size = sz ∧ va_P (dC, dI) vwCl [(op, .inr (10, oX10 ot on dn rd oc d o si w se nb hi p_status oe ih mb p_imageStatus x_p)), (o, .inr (4, oX4 o_met o_enough x_o)), (o_met, .inl (kJ, 23, .inr (.inl f_o_met)))] U.heap ∧ kE dC dI kB kI kJ kZ kC kS U ∧ va_D (fun _ => True) [(op, .inr (10, oX10 ot on dn rd oc d o si w se nb hi p_status oe ih mb p_imageStatus x_p)), (o, .inr (4, oX4 o_met o_enough x_o)), (o_met, .inl (kJ, 23, .inr (.inl f_o_met)))])) (va_Ql (fun (r : Int64) (_ : Unit) => r = 1000000000000 - kv5 k 5) (fun _ t => ∃ (f_o_met' : Nat → Int64), va_P (dC, dI) vwCl [(op, .inr (10, oX10 ot on dn rd oc d o si w se nb hi p_status oe ih mb p_imageStatus x_p)), (o, .inr (4, oX4 o_met o_enough x_o)), (o_met, .inl (kJ, 23, .inr (.inl f_o_met')))] t.heap ∧ va_D (va_A [(op, .inr (10, oX10 ot on dn rd oc d o si w se nb hi p_status oe ih mb p_imageStatus x_p)), (o, .inr (4, oX4 o_met o_enough x_o)), (o_met, .inl (kJ, 23, .inr (.inl f_o_met)))] sz) [(op, .inr (10, oX10 ot on dn rd oc d o si w se nb hi p_status oe ih mb p_imageStatus x_p)), (o, .inr (4, oX4 o_met o_enough x_o)), (o_met, .inl (kJ, 23, .inr (.inl f_o_met')))]) (va_A [(op, .inr (10, oX10 ot on dn rd oc d o si w se nb hi p_status oe ih mb p_imageStatus x_p)), (o, .inr (4, oX4 o_met o_enough x_o)), (o_met, .inl (kJ, 23, .inr (.inl f_o_met)))] sz)) 0 0 (va_A [(op, .inr (10, oX10 ot on dn rd oc d o si w se nb hi p_status oe ih mb p_imageStatus x_p)), (o, .inr (4, oX4 o_met o_enough x_o)), (o_met, .inl (kJ, 23, .inr (.inl f_o_met)))] sz) := by
  refine Met.ofW (cc := cX10_missing) (maxL := 3) (ret := (some .long)) (by decide) rfl ?_
  intro p e s m args0 below meth c s₁ B hml hv
  obtain ⟨hargs, hsz, hP, hE, hD0⟩ := hv
  have hx := B.exec
  have hb := B.bytes
  have hr := B.returns
  have hts := atoms_spec (ws := wsX10_missing) B.pre
  have hown : s.vm.findClass RX10 = some m.cls := findClass_of_methodNamed B.named
  have hlocks := B.notSynchronized
  have hK := hE.1
  have hin10 : ∀ w ∈ wsX100, w ∈ wsX10_missing := fun _ h9 => List.mem_cons_of_mem _ (List.mem_append_left _ (List.mem_append_left _ (List.mem_append_right _ h9)))
  have hin4 : ∀ w ∈ wsX40, w ∈ wsX10_missing := fun _ h9 => List.mem_cons_of_mem _ (List.mem_append_left _ (List.mem_append_right _ h9))
  have hw_0 := hts (.fieldLink RX10 48 "PathProber" "odds" "LPathProber$Odds;") (List.mem_of_getElem? (i := 3) (by decide +kernel))
  subst hsz
  have hD := hD0.self (sz := s.heap.size)
  generalize hAe : va_A [(op, .inr (10, oX10 ot on dn rd oc d o si w se nb hi p_status oe ih mb p_imageStatus x_p)), (o, .inr (4, oX4 o_met o_enough x_o)), (o_met, .inl (kJ, 23, .inr (.inl f_o_met)))] s.heap.size = A at hD ⊢
  have hA : ∀ q : Nat, s.heap.size ≤ q → A q := fun q h => by rw [← hAe]; exact Or.inr h
  have hS : va_S A s.heap s.heap [] := va_S.rf
  have hP : va_P (dC, dI) vwCl [(op, .inr (10, oX10 ot on dn rd oc d o si w se nb hi p_status oe ih mb p_imageStatus x_p)), (o, .inr (4, oX4 o_met o_enough x_o)), (o_met, .inl (kJ, 23, .inr (.inl f_o_met)))] s.heap := hP
  have hl := lv_entry ([.ref op, .int (nI k), .int 5]) (n := 3) (Nat.le_of_ble_eq_true rfl)
  have hla : entryFrame m args0 3 = entryFrame m ([.ref op, .int (nI k), .int 5] : List Value).toArray 3 := by rw [hargs]
  rw [hla, lg_entry_eq]
  generalize (lg_sl ([.ref op, .int (nI k), .int 5]) ++ List.replicate (3 - (lg_sl ([.ref op, .int (nI k), .int 5])).length) Slot.unset).toArray = ls at hl ⊢
  have hl : lv_has ls 3 [(0, .ref op), (1, .int (nI k)), (2, .int 5)] := hl
  have hkv : iv 0 60 (nI k) := iv_nIv (by omega) (by omega) (by omega)
  refine lv_iload_n hx hb dX10_missing_0 rfl (lv_at hl 1 rfl) ?_
  refine lv_if_lt (tgt := 20) hx hb dX10_missing_1 (by decide) (fun c9 => absurd c9 (iv_nlt hkv (iv_k (by decide) (by decide) : iv 0 0 0) (by decide))) (fun _ => ?_)
  refine lv_iload_n hx hb dX10_missing_4 rfl (lv_at hl 1 rfl) ?_
  refine lv_bipush (v := 60) hx hb dX10_missing_5 (by decide) ?_
  refine lv_icmp_gt (tgt := 20) hx hb dX10_missing_7 (by decide) (fun c9 => absurd c9 (iv_nlt (iv_k (by decide) (by decide) : iv 60 60 60) hkv (by decide))) (fun _ => ?_)
  refine lv_iload_n hx hb dX10_missing_10 rfl (lv_at hl 2 rfl) ?_
  refine lv_iconst (v := 1) hx hb dX10_missing_11 (by decide) ?_
  refine lv_icmp_lt (tgt := 20) hx hb dX10_missing_12 (by decide) (fun c9 => absurd c9 (by decide)) (fun _ => ?_)
  refine lv_iload_n hx hb dX10_missing_15 rfl (lv_at hl 2 rfl) ?_
  refine lv_iconst (v := 5) hx hb dX10_missing_16 (by decide) ?_
  refine lv_icmp_le (tgt := 31) hx hb dX10_missing_17 (by decide) (fun _ => ?_) (fun c9 => absurd (by decide) c9)
  refine lv_aload_n hx hb dX10_missing_31 rfl (lv_at hl 0 rfl) ?_
  refine va_get (D := (dC, dI)) (ci := 10) (v := .ref o) (C := RX10) (T := TX10) (N := 19) hx hb hts hin10 hown hK hP 0 rfl rfl 6 (by decide) hw_0 (fun _ h9 => h9) rfl dX10_missing_32 ?_
  refine lv_iload_n hx hb dX10_missing_35 rfl (lv_at hl 1 rfl) ?_
  refine lv_iload_n hx hb dX10_missing_36 rfl (lv_at hl 2 rfl) ?_
  have hPc := hP.sub (ws' := [(o, .inr (4, oX4 o_met o_enough x_o)), (o_met, .inl (kJ, 23, .inr (.inl f_o_met)))]) [1, 2] rfl
  have hDc := hD.sub (ws' := [(o, .inr (4, oX4 o_met o_enough x_o)), (o_met, .inl (kJ, 23, .inr (.inl f_o_met)))]) [1, 2] (by decide) rfl
  have hFc := va_free (wc := [(o, .inr (4, oX4 o_met o_enough x_o)), (o_met, .inl (kJ, 23, .inr (.inl f_o_met)))]) hD hS hA [1, 2] rfl
  refine va_calll (va_runV (As := [.int (nI k), .int 5]) (rest := []) ⟨hx, hb, hml, hown, hts⟩ (e4_missed_5 l dC dI kB kI kJ kZ kC kS s.heap.size o o_met o_enough x_o k f_o_met (hk)) (cwV 2 hts gX10_missing_X4_missed rfl rfl rfl (by decide +kernel) ⟨Nat.le_of_ble_eq_true rfl, Nat.le_of_ble_eq_true rfl⟩) ⟨fun a U g mk q => by obtain ⟨q0, q1, qP, qE, qD⟩ := q; exact ⟨q0, q1, qP, kE_call qE, qD⟩, va_recv hK hP (ci := 4) (q0 := 1) rfl rfl, fun U hU hW => ⟨rfl, by rw [hU], by rw [hU]; exact hPc, kE_warm hW hE, hDc.weaken (fun _ _ _ _ => trivial)⟩⟩ rfl rfl hl.1 rfl (lv_room (Nat.le_of_ble_eq_true rfl)) dX10_missing_37 ⟨Nat.le_of_ble_eq_true rfl, Nat.le_of_ble_eq_true rfl⟩) hS (fun q _ h => hFc q h) hFc (fun r1 u t H1 locs ht hvm w2 hB hz1 hk1 hS => ?_)
  obtain ⟨f3, hP1, hD1⟩ := hB
  rw [ht] at hP1
  try dsimp only at w2
  obtain ⟨hP, hD⟩ := va_join (wr := [(op, .inr (10, oX10 ot on dn rd oc d o si w se nb hi p_status oe ih mb p_imageStatus x_p))]) (w1 := [(o, .inr (4, oX4 o_met o_enough x_o)), (o_met, .inl (kJ, 23, .inr (.inl f3)))]) hP hD [1, 2] [0] rfl rfl (by decide) (by decide) hk1 hFc hP1 hD1
  generalize H1 = H at hP hS ⊢
  have hP : va_P (dC, dI) vwCl [(op, .inr (10, oX10 ot on dn rd oc d o si w se nb hi p_status oe ih mb p_imageStatus x_p)), (o, .inr (4, oX4 o_met o_enough x_o)), (o_met, .inl (kJ, 23, .inr (.inl f3)))] H := hP
  have hD : va_D A [(op, .inr (10, oX10 ot on dn rd oc d o si w se nb hi p_status oe ih mb p_imageStatus x_p)), (o, .inr (4, oX4 o_met o_enough x_o)), (o_met, .inl (kJ, 23, .inr (.inl f3)))] := hD
  refine W.widen (k := 0) (n := 0) (Nat.le_of_ble_eq_true rfl) (Nat.le_of_ble_eq_true rfl) ?_
  subst w2
  have hP9 := hP.sub (ws' := [(op, .inr (10, oX10 ot on dn rd oc d o si w se nb hi p_status oe ih mb p_imageStatus x_p)), (o, .inr (4, oX4 o_met o_enough x_o)), (o_met, .inl (kJ, 23, .inr (.inl f3)))]) [0, 1, 2] rfl
  have hD9 := hD.sub (ws' := [(op, .inr (10, oX10 ot on dn rd oc d o si w se nb hi p_status oe ih mb p_imageStatus x_p)), (o, .inr (4, oX4 o_met o_enough x_o)), (o_met, .inl (kJ, 23, .inr (.inl f3)))]) [0, 1, 2] (by decide) rfl
  exact W.lret (v := 1000000000000 - kv5 k 5) hx hb hr (fun t ht hW => ⟨⟨1000000000000 - kv5 k 5, (), rfl, rfl, f3, by rw [ht]; exact hP9, hD9⟩, hS.F ht⟩) hS.2.2 dX10_missing_40
def rm_sL_missing_5 : Room := { frames := 3, cells := 0, slots := 0, locals := 69 }
set_option maxHeartbeats 4000000 in
set_option maxRecDepth 100000 in
theorem sL_missing_5 (l : Launch) (hst : l.stackTraces = false) (dC : Nat → ClassId) (dI : Nat → Nat → Nat) (kB kI kJ kZ kC kS : ClassId) (sz : Nat) (op : Nat) (ot : Nat) (on : Nat) (dn : Nat) (rd : Nat) (oc : Nat) (d : Nat) (o : Nat) (si : Nat) (w : Nat) (se : Nat) (nb : Nat) (hi : Nat) (p_status : Nat) (oe : Nat) (ih : Nat) (mb : Nat) (p_imageStatus : Nat) (x_p : Nat → Int32) (o_met : Nat) (o_enough : Nat) (x_o : Nat → Int32) (f_o_met : Nat → Int64) (k : Nat) (ou : Nat) (fo : Nat → Int64) (hk : k ≤ 60) : Met l yL_missing wsL_missing rm_sL_missing_5 (va_Pc [.ref op, .int (nI k), .int 5, .ref ou] (fun U => U.heap.size = sz ∧ va_P (dC, dI) vwCl [(op, .inr (10, oX10 ot on dn rd oc d o si w se nb hi p_status oe ih mb p_imageStatus x_p)), (o, .inr (4, oX4 o_met o_enough x_o)), (o_met, .inl (kJ, 23, .inr (.inl f_o_met))), (ou, .inl (kJ, 1, .inr (.inl fo)))] U.heap ∧ kE dC dI kB kI kJ kZ kC kS U ∧ va_D (fun _ => True) [(op, .inr (10, oX10 ot on dn rd oc d o si w se nb hi p_status oe ih mb p_imageStatus x_p)), (o, .inr (4, oX4 o_met o_enough x_o)), (o_met, .inl (kJ, 23, .inr (.inl f_o_met))), (ou, .inl (kJ, 1, .inr (.inl fo)))] ∧ kX U ∧ kT (va_A [(op, .inr (10, oX10 ot on dn rd oc d o si w se nb hi p_status oe ih mb p_imageStatus x_p)), (o, .inr (4, oX4 o_met o_enough x_o)), (o_met, .inl (kJ, 23, .inr (.inl f_o_met))), (ou, .inl (kJ, 1, .inr (.inl fo)))] sz) U)) (va_Qi (fun (r : Int32) (_ : Unit) => r = 0) (fun _ t => ∃ (f_o_met' : Nat → Int64) (fo' : Nat → Int64), (fo' 0 = 1000000000000 - kv5 k 5) ∧ va_P (dC, dI) vwCl [(op, .inr (10, oX10 ot on dn rd oc d o si w se nb hi p_status oe ih mb p_imageStatus x_p)), (o, .inr (4, oX4 o_met o_enough x_o)), (o_met, .inl (kJ, 23, .inr (.inl f_o_met'))), (ou, .inl (kJ, 1, .inr (.inl fo')))] t.heap ∧ va_D (va_A [(op, .inr (10, oX10 ot on dn rd oc d o si w se nb hi p_status oe ih mb p_imageStatus x_p)), (o, .inr (4, oX4 o_met o_enough x_o)), (o_met, .inl (kJ, 23, .inr (.inl f_o_met))), (ou, .inl (kJ, 1, .inr (.inl fo)))] sz) [(op, .inr (10, oX10 ot on dn rd oc d o si w se nb hi p_status oe ih mb p_imageStatus x_p)), (o, .inr (4, oX4 o_met o_enough x_o)), (o_met, .inl (kJ, 23, .inr (.inl f_o_met'))), (ou, .inl (kJ, 1, .inr (.inl fo')))]) (va_A [(op, .inr (10, oX10 ot on dn rd oc d o si w se nb hi p_status oe ih mb p_imageStatus x_p)), (o, .inr (4, oX4 o_met o_enough x_o)), (o_met, .inl (kJ, 23, .inr (.inl f_o_met))), (ou, .inl (kJ, 1, .inr (.inl fo)))] sz)) 0 0 (va_A [(op, .inr (10, oX10 ot on dn rd oc d o si w se nb hi p_status oe ih mb p_imageStatus x_p)), (o, .inr (4, oX4 o_met o_enough x_o)), (o_met, .inl (kJ, 23, .inr (.inl f_o_met))), (ou, .inl (kJ, 1, .inr (.inl fo)))] sz) := by
  refine va_MetW (cc := cL_missing) (maxL := 5) (ret := (some .int)) (by decide) rfl ?_
  intro p e s m args0 below meth c s₁ B hml hv
  obtain ⟨hargs, hsz, hP, hE, hD0, hXs, hT⟩ := hv
  have hx := B.exec
  have hb := B.bytes
  have hr := B.returns
  have hts := atoms_spec (ws := wsL_missing) B.pre
  have hown : s.vm.findClass RL = some m.cls := findClass_of_methodNamed B.named
  have hlocks := B.notSynchronized
  have hK := hE.1
  have hin10 : ∀ w ∈ wsX100, w ∈ wsL_missing := fun _ h9 => List.mem_cons_of_mem _ (List.mem_append_left _ (List.mem_append_left _ (List.mem_append_right _ h9)))
  have hin4 : ∀ w ∈ wsX40, w ∈ wsL_missing := fun _ h9 => List.mem_cons_of_mem _ (List.mem_append_left _ (List.mem_append_right _ h9))
  subst hsz
  have hD := hD0.self (sz := s.heap.size)
  generalize hAe : va_A [(op, .inr (10, oX10 ot on dn rd oc d o si w se nb hi p_status oe ih mb p_imageStatus x_p)), (o, .inr (4, oX4 o_met o_enough x_o)), (o_met, .inl (kJ, 23, .inr (.inl f_o_met))), (ou, .inl (kJ, 1, .inr (.inl fo)))] s.heap.size = A at hD hT ⊢
  have hA : ∀ q : Nat, s.heap.size ≤ q → A q := fun q h => by rw [← hAe]; exact Or.inr h
  have hS : va_S A s.heap s.heap [] := va_S.rf
  have hP : va_P (dC, dI) vwCl [(op, .inr (10, oX10 ot on dn rd oc d o si w se nb hi p_status oe ih mb p_imageStatus x_p)), (o, .inr (4, oX4 o_met o_enough x_o)), (o_met, .inl (kJ, 23, .inr (.inl f_o_met))), (ou, .inl (kJ, 1, .inr (.inl fo)))] s.heap := hP
  have hl := lv_entry ([.ref op, .int (nI k), .int 5, .ref ou]) (n := 5) (Nat.le_of_ble_eq_true rfl)
  have hla : entryFrame m args0 5 = entryFrame m ([.ref op, .int (nI k), .int 5, .ref ou] : List Value).toArray 5 := by rw [hargs]
  rw [hla, lg_entry_eq]
  generalize (lg_sl ([.ref op, .int (nI k), .int 5, .ref ou]) ++ List.replicate (5 - (lg_sl ([.ref op, .int (nI k), .int 5, .ref ou])).length) Slot.unset).toArray = ls at hl ⊢
  have hl : lv_has ls 5 [(0, .ref op), (1, .int (nI k)), (2, .int 5), (3, .ref ou)] := hl
  have hkv : iv 0 60 (nI k) := iv_nIv (by omega) (by omega) (by omega)
  refine lv_aload_n hx hb dL_missing_0 rfl (lv_at hl 3 rfl) ?_
  refine lv_iconst (v := 0) hx hb dL_missing_1 (by decide) ?_
  refine lv_aload_n hx hb dL_missing_2 rfl (lv_at hl 0 rfl) ?_
  refine lv_iload_n hx hb dL_missing_3 rfl (lv_at hl 1 rfl) ?_
  refine lv_iload_n hx hb dL_missing_4 rfl (lv_at hl 2 rfl) ?_
  have hPc := hP.sub (ws' := [(op, .inr (10, oX10 ot on dn rd oc d o si w se nb hi p_status oe ih mb p_imageStatus x_p)), (o, .inr (4, oX4 o_met o_enough x_o)), (o_met, .inl (kJ, 23, .inr (.inl f_o_met)))]) [0, 1, 2] rfl
  have hDc := hD.sub (ws' := [(op, .inr (10, oX10 ot on dn rd oc d o si w se nb hi p_status oe ih mb p_imageStatus x_p)), (o, .inr (4, oX4 o_met o_enough x_o)), (o_met, .inl (kJ, 23, .inr (.inl f_o_met)))]) [0, 1, 2] (by decide) rfl
  have hFc := va_free (wc := [(op, .inr (10, oX10 ot on dn rd oc d o si w se nb hi p_status oe ih mb p_imageStatus x_p)), (o, .inr (4, oX4 o_met o_enough x_o)), (o_met, .inl (kJ, 23, .inr (.inl f_o_met)))]) hD hS hA [0, 1, 2] rfl
  refine va_calll (va_runV (As := [.int (nI k), .int 5]) (rest := [.int 0, .ref ou]) ⟨hx, hb, hml, hown, hts⟩ (s10_missing_5 l dC dI kB kI kJ kZ kC kS s.heap.size op ot on dn rd oc d o si w se nb hi p_status oe ih mb p_imageStatus x_p o_met o_enough x_o f_o_met k (hk)) (cwV 2 hts gL_missing_X10_missing rfl rfl rfl (by decide +kernel) ⟨Nat.le_of_ble_eq_true rfl, Nat.le_of_ble_eq_true rfl⟩) ⟨fun a U g mk q => by obtain ⟨q0, q1, qP, qE, qD⟩ := q; exact ⟨q0, q1, qP, kE_call qE, qD⟩, va_recv hK hP (ci := 10) (q0 := 0) rfl rfl, fun U hU hW => ⟨rfl, by rw [hU], by rw [hU]; exact hPc, kE_warm hW hE, hDc.weaken (fun _ _ _ _ => trivial)⟩⟩ rfl rfl hl.1 rfl (lv_room (Nat.le_of_ble_eq_true rfl)) dL_missing_5 ⟨Nat.le_of_ble_eq_true rfl, Nat.le_of_ble_eq_true rfl⟩) hS (fun q _ h => hFc q h) hFc (fun r1 u t H1 locs ht hvm w2 hB hz1 hk1 hS => ?_)
  obtain ⟨f3, hP1, hD1⟩ := hB
  rw [ht] at hP1
  try dsimp only at w2
  obtain ⟨hP, hD⟩ := va_join (wr := [(ou, .inl (kJ, 1, .inr (.inl fo)))]) (w1 := [(op, .inr (10, oX10 ot on dn rd oc d o si w se nb hi p_status oe ih mb p_imageStatus x_p)), (o, .inr (4, oX4 o_met o_enough x_o)), (o_met, .inl (kJ, 23, .inr (.inl f3)))]) hP hD [0, 1, 2] [3] rfl rfl (by decide) (by decide) hk1 hFc hP1 hD1
  generalize H1 = H at hP hS ⊢
  have hP : va_P (dC, dI) vwCl [(ou, .inl (kJ, 1, .inr (.inl fo))), (op, .inr (10, oX10 ot on dn rd oc d o si w se nb hi p_status oe ih mb p_imageStatus x_p)), (o, .inr (4, oX4 o_met o_enough x_o)), (o_met, .inl (kJ, 23, .inr (.inl f3)))] H := hP
  have hD : va_D A [(ou, .inl (kJ, 1, .inr (.inl fo))), (op, .inr (10, oX10 ot on dn rd oc d o si w se nb hi p_status oe ih mb p_imageStatus x_p)), (o, .inr (4, oX4 o_met o_enough x_o)), (o_met, .inl (kJ, 23, .inr (.inl f3)))] := hD
  refine W.widen (k := 0) (n := 0) (Nat.le_of_ble_eq_true rfl) (Nat.le_of_ble_eq_true rfl) ?_
  subst w2
  refine va_last hx hb hK hP hD hS 0 2 rfl rfl (vp_in_nI (n := 0) (by decide) (by decide)) dL_missing_8 (fun H locs hP hD hS => ?_)
  have hP : va_P (dC, dI) vwCl [(ou, .inl (kJ, 1, .inr (.inl (vp_updL fo 0 (1000000000000 - kv5 k 5))))), (op, .inr (10, oX10 ot on dn rd oc d o si w se nb hi p_status oe ih mb p_imageStatus x_p)), (o, .inr (4, oX4 o_met o_enough x_o)), (o_met, .inl (kJ, 23, .inr (.inl f3)))] H := hP
  have hD : va_D A [(ou, .inl (kJ, 1, .inr (.inl (vp_updL fo 0 (1000000000000 - kv5 k 5))))), (op, .inr (10, oX10 ot on dn rd oc d o si w se nb hi p_status oe ih mb p_imageStatus x_p)), (o, .inr (4, oX4 o_met o_enough x_o)), (o_met, .inl (kJ, 23, .inr (.inl f3)))] := hD
  refine lv_goto (tgt := 16) hx hb dL_missing_9 (by decide) ?_
  refine lv_iconst (v := 0) hx hb dL_missing_16 (by decide) ?_
  have hP9 := hP.sub (ws' := [(op, .inr (10, oX10 ot on dn rd oc d o si w se nb hi p_status oe ih mb p_imageStatus x_p)), (o, .inr (4, oX4 o_met o_enough x_o)), (o_met, .inl (kJ, 23, .inr (.inl f3))), (ou, .inl (kJ, 1, .inr (.inl (vp_updL fo 0 (1000000000000 - kv5 k 5)))))]) [1, 2, 3, 0] rfl
  have hD9 := hD.sub (ws' := [(op, .inr (10, oX10 ot on dn rd oc d o si w se nb hi p_status oe ih mb p_imageStatus x_p)), (o, .inr (4, oX4 o_met o_enough x_o)), (o_met, .inl (kJ, 23, .inr (.inl f3))), (ou, .inl (kJ, 1, .inr (.inl (vp_updL fo 0 (1000000000000 - kv5 k 5)))))]) [1, 2, 3, 0] (by decide) rfl
  exact W.iret (v := 0) hx hb hr (fun t ht hW => ⟨⟨0, (), rfl, rfl, f3, vp_updL fo 0 (1000000000000 - kv5 k 5), (show (vp_updL fo 0 (1000000000000 - kv5 k 5)) 0 = 1000000000000 - kv5 k 5 from rfl), by rw [ht]; exact hP9, hD9⟩, hS.F ht⟩) hS.2.2 dL_missing_17
def rm_s11_missing_5 : Room := { frames := 1, cells := 0, slots := 0, locals := 26 }
set_option maxHeartbeats 4000000 in
set_option maxRecDepth 100000 in
theorem s11_missing_5 (l : Launch) (dC : Nat → ClassId) (dI : Nat → Nat → Nat) (kB kI kJ kZ kC kS : ClassId) (sz : Nat) (m0 : Nat) (ra : Nat → Nat) (x0 : Nat → Int32) (q_met : Nat → Int64) (k : Nat) (hX : fI lX11 hX11 x0) (hk : k ≤ 60) : Met l yX11_missing wsX11_missing rm_s11_missing_5 (va_Pc [.ref m0, .int (nI k), .int 5] (fun U => U.heap.size = sz ∧ va_P (dC, dI) vwCl [(m0, .inr (11, oX11 ra x0)), (ra 15, .inl (kJ, 24, .inr (.inl q_met)))] U.heap ∧ kE dC dI kB kI kJ kZ kC kS U ∧ va_D (fun _ => True) [(m0, .inr (11, oX11 ra x0)), (ra 15, .inl (kJ, 24, .inr (.inl q_met)))])) (va_Ql (fun (r : Int64) (_ : Unit) => r = 1000000000000 - kv5 k 5) (fun _ t => ∃ (x0' : Nat → Int32) (q_met' : Nat → Int64), fI lX11 hX11 x0' ∧ (x0' 0 = 0) ∧ va_P (dC, dI) vwCl [(m0, .inr (11, oX11 ra x0')), (ra 15, .inl (kJ, 24, .inr (.inl q_met')))] t.heap ∧ va_D (va_A [(m0, .inr (11, oX11 ra x0)), (ra 15, .inl (kJ, 24, .inr (.inl q_met)))] sz) [(m0, .inr (11, oX11 ra x0')), (ra 15, .inl (kJ, 24, .inr (.inl q_met')))]) (va_A [(m0, .inr (11, oX11 ra x0)), (ra 15, .inl (kJ, 24, .inr (.inl q_met)))] sz)) 0 0 (va_A [(m0, .inr (11, oX11 ra x0)), (ra 15, .inl (kJ, 24, .inr (.inl q_met)))] sz) := by
  refine Met.ofW (cc := cX11_missing) (maxL := 3) (ret := (some .long)) (by decide) rfl ?_
  intro p e s m args0 below meth c s₁ B hml hv
  obtain ⟨hargs, hsz, hP, hE, hD0⟩ := hv
  have hx := B.exec
  have hb := B.bytes
  have hr := B.returns
  have hts := atoms_spec (ws := wsX11_missing) B.pre
  have hown : s.vm.findClass RX11 = some m.cls := findClass_of_methodNamed B.named
  have hlocks := B.notSynchronized
  have hK := hE.1
  have hin11 : ∀ w ∈ wsX110, w ∈ wsX11_missing := fun _ h9 => List.mem_cons_of_mem _ (List.mem_append_right _ h9)
  have hw_0 := hts (.fieldLink RX11 142 "PathProberModel" "code" "I") (List.mem_of_getElem? (i := 1) (by decide +kernel))
  subst hsz
  have hD := hD0.self (sz := s.heap.size)
  generalize hAe : va_A [(m0, .inr (11, oX11 ra x0)), (ra 15, .inl (kJ, 24, .inr (.inl q_met)))] s.heap.size = A at hD ⊢
  have hA : ∀ q : Nat, s.heap.size ≤ q → A q := fun q h => by rw [← hAe]; exact Or.inr h
  have hS : va_S A s.heap s.heap [] := va_S.rf
  have hP : va_P (dC, dI) vwCl [(m0, .inr (11, oX11 ra x0)), (ra 15, .inl (kJ, 24, .inr (.inl q_met)))] s.heap := hP
  have hl := lv_entry ([.ref m0, .int (nI k), .int 5]) (n := 3) (Nat.le_of_ble_eq_true rfl)
  have hla : entryFrame m args0 3 = entryFrame m ([.ref m0, .int (nI k), .int 5] : List Value).toArray 3 := by rw [hargs]
  rw [hla, lg_entry_eq]
  generalize (lg_sl ([.ref m0, .int (nI k), .int 5]) ++ List.replicate (3 - (lg_sl ([.ref m0, .int (nI k), .int 5])).length) Slot.unset).toArray = ls at hl ⊢
  have hl : lv_has ls 3 [(0, .ref m0), (1, .int (nI k)), (2, .int 5)] := hl
  have hkv : iv 0 60 (nI k) := iv_nIv (by omega) (by omega) (by omega)
  refine lv_aload_n hx hb dX11_missing_0 rfl (lv_at hl 0 rfl) ?_
  refine lv_iconst (v := 0) hx hb dX11_missing_1 (by decide) ?_
  refine va_put (D := (dC, dI)) (ci := 11) (v := .int 0) (ty := .int) (C := RX11) (T := TX11) (N := 61) hx hb hts hin11 tyX11 tyX11_ok nmX11 hown hK hP hD hS 0 rfl rfl 2 (by decide) hw_0 (fun _ h9 => h9) rfl (by decide +kernel) rfl rfl (Nat.le_of_ble_eq_true rfl) dX11_missing_2 (fun H locs hP hD hS => ?_)
  have hP : va_P (dC, dI) vwCl [(m0, .inr (11, oX11 ra (upd x0 0 0))), (ra 15, .inl (kJ, 24, .inr (.inl q_met)))] H := hP
  have hD : va_D A [(m0, .inr (11, oX11 ra (upd x0 0 0))), (ra 15, .inl (kJ, 24, .inr (.inl q_met)))] := hD
  refine lv_iload_n hx hb dX11_missing_5 rfl (lv_at hl 1 rfl) ?_
  refine lv_iconst (v := 0) hx hb dX11_missing_6 (by decide) ?_
  refine lv_bipush (v := 60) hx hb dX11_missing_7 (by decide) ?_
  have hPc := hP.sub (ws' := []) [] rfl
  have hDc := hD.sub (ws' := []) [] (by decide) rfl
  have hFc := va_free (wc := []) hD hS hA [] rfl
  refine va_calli (va_runS (As := [.int (nI k), .int 0, .int 60]) (rest := []) ⟨hx, hb, hml, hown, hts⟩ (s11_isIn_60 l dC dI kB kI kJ kZ kC kS H.size (nI k) (hkv)) (va_cwS 3 hts gX11_missing_X11_isIn rfl rfl rfl (by decide +kernel) ⟨Nat.le_of_ble_eq_true rfl, Nat.le_of_ble_eq_true rfl⟩) ⟨fun a U g mk q => by obtain ⟨q0, q1, qP, qE, qD⟩ := q; exact ⟨q0, q1, qP, kE_call qE, qD⟩, fun U hU hW => ⟨rfl, by rw [hU], by rw [hU]; exact hPc, kE_warm hW hE, hDc.weaken (fun _ _ _ _ => trivial)⟩⟩ rfl rfl hl.1 rfl (lv_room (Nat.le_of_ble_eq_true rfl)) dX11_missing_9 ⟨Nat.le_of_ble_eq_true rfl, Nat.le_of_ble_eq_true rfl⟩) hS (fun q _ h => hFc q h) hFc (fun r1 u t H1 locs ht hvm w2 hB hz1 hk1 hS => ?_)
  obtain ⟨hP1, hD1⟩ := hB
  rw [ht] at hP1
  try dsimp only at w2
  obtain ⟨hP, hD⟩ := va_join (wr := [(m0, .inr (11, oX11 ra (upd x0 0 0))), (ra 15, .inl (kJ, 24, .inr (.inl q_met)))]) (w1 := []) hP hD [] [0, 1] rfl rfl (by decide) (by decide) hk1 hFc hP1 hD1
  generalize H1 = H at hP hS ⊢
  have hP : va_P (dC, dI) vwCl [(m0, .inr (11, oX11 ra (upd x0 0 0))), (ra 15, .inl (kJ, 24, .inr (.inl q_met)))] H := hP
  have hD : va_D A [(m0, .inr (11, oX11 ra (upd x0 0 0))), (ra 15, .inl (kJ, 24, .inr (.inl q_met)))] := hD
  refine W.widen (k := 0) (n := 0) (Nat.le_of_ble_eq_true rfl) (Nat.le_of_ble_eq_true rfl) ?_
  obtain rfl : r1 = 1 := iv_one w2 (by decide)
  refine lv_if_eq (tgt := 33) hx hb dX11_missing_12 (by decide) (fun c9 => absurd c9 (by decide)) (fun _ => ?_)
  refine lv_iload_n hx hb dX11_missing_15 rfl (lv_at hl 2 rfl) ?_
  refine lv_iconst (v := 1) hx hb dX11_missing_16 (by decide) ?_
  refine lv_iconst (v := 5) hx hb dX11_missing_17 (by decide) ?_
  have hPc := hP.sub (ws' := []) [] rfl
  have hDc := hD.sub (ws' := []) [] (by decide) rfl
  have hFc := va_free (wc := []) hD hS hA [] rfl
  refine va_calli (va_runS (As := [.int 5, .int 1, .int 5]) (rest := []) ⟨hx, hb, hml, hown, hts⟩ (s11_isIn_m5 l dC dI kB kI kJ kZ kC kS H.size ) (va_cwS 3 hts gX11_missing_X11_isIn rfl rfl rfl (by decide +kernel) ⟨Nat.le_of_ble_eq_true rfl, Nat.le_of_ble_eq_true rfl⟩) ⟨fun a U g mk q => by obtain ⟨q0, q1, qP, qE, qD⟩ := q; exact ⟨q0, q1, qP, kE_call qE, qD⟩, fun U hU hW => ⟨rfl, by rw [hU], by rw [hU]; exact hPc, kE_warm hW hE, hDc.weaken (fun _ _ _ _ => trivial)⟩⟩ rfl rfl hl.1 rfl (lv_room (Nat.le_of_ble_eq_true rfl)) dX11_missing_18 ⟨Nat.le_of_ble_eq_true rfl, Nat.le_of_ble_eq_true rfl⟩) hS (fun q _ h => hFc q h) hFc (fun r3 u t H1 locs ht hvm w4 hB hz1 hk1 hS => ?_)
  obtain ⟨hP1, hD1⟩ := hB
  rw [ht] at hP1
  try dsimp only at w4
  obtain ⟨hP, hD⟩ := va_join (wr := [(m0, .inr (11, oX11 ra (upd x0 0 0))), (ra 15, .inl (kJ, 24, .inr (.inl q_met)))]) (w1 := []) hP hD [] [0, 1] rfl rfl (by decide) (by decide) hk1 hFc hP1 hD1
  generalize H1 = H at hP hS ⊢
  have hP : va_P (dC, dI) vwCl [(m0, .inr (11, oX11 ra (upd x0 0 0))), (ra 15, .inl (kJ, 24, .inr (.inl q_met)))] H := hP
  have hD : va_D A [(m0, .inr (11, oX11 ra (upd x0 0 0))), (ra 15, .inl (kJ, 24, .inr (.inl q_met)))] := hD
  refine W.widen (k := 0) (n := 0) (Nat.le_of_ble_eq_true rfl) (Nat.le_of_ble_eq_true rfl) ?_
  obtain rfl : r3 = 1 := iv_one w4 (by decide)
  refine lv_if_eq (tgt := 33) hx hb dX11_missing_21 (by decide) (fun c9 => absurd c9 (by decide)) (fun _ => ?_)
  refine lv_aload_n hx hb dX11_missing_24 rfl (lv_at hl 0 rfl) ?_
  refine lv_iload_n hx hb dX11_missing_25 rfl (lv_at hl 1 rfl) ?_
  refine lv_iload_n hx hb dX11_missing_26 rfl (lv_at hl 2 rfl) ?_
  have hPc := hP.sub (ws' := [(m0, .inr (11, oX11 ra (upd x0 0 0))), (ra 15, .inl (kJ, 24, .inr (.inl q_met)))]) [0, 1] rfl
  have hDc := hD.sub (ws' := [(m0, .inr (11, oX11 ra (upd x0 0 0))), (ra 15, .inl (kJ, 24, .inr (.inl q_met)))]) [0, 1] (by decide) rfl
  have hFc := va_free (wc := [(m0, .inr (11, oX11 ra (upd x0 0 0))), (ra 15, .inl (kJ, 24, .inr (.inl q_met)))]) hD hS hA [0, 1] rfl
  refine va_calll (va_runV (As := [.int (nI k), .int 5]) (rest := []) ⟨hx, hb, hml, hown, hts⟩ (e11_missingOf_5 l dC dI kB kI kJ kZ kC kS H.size m0 ra (upd x0 0 0) k q_met (hk)) (cwV 2 hts gX11_missing_X11_missingOf rfl rfl rfl (by decide +kernel) ⟨Nat.le_of_ble_eq_true rfl, Nat.le_of_ble_eq_true rfl⟩) ⟨fun a U g mk q => by obtain ⟨q0, q1, qP, qE, qD⟩ := q; exact ⟨q0, q1, qP, kE_call qE, qD⟩, va_recv hK hP (ci := 11) (q0 := 0) rfl rfl, fun U hU hW => ⟨rfl, by rw [hU], by rw [hU]; exact hPc, kE_warm hW hE, hDc.weaken (fun _ _ _ _ => trivial)⟩⟩ rfl rfl hl.1 rfl (lv_room (Nat.le_of_ble_eq_true rfl)) dX11_missing_27 ⟨Nat.le_of_ble_eq_true rfl, Nat.le_of_ble_eq_true rfl⟩) hS (fun q _ h => hFc q h) hFc (fun r5 u t H1 locs ht hvm w6 hB hz1 hk1 hS => ?_)
  obtain ⟨f7, hP1, hD1⟩ := hB
  rw [ht] at hP1
  try dsimp only at w6
  obtain ⟨hP, hD⟩ := va_join (wr := []) (w1 := [(m0, .inr (11, oX11 ra (upd x0 0 0))), (ra 15, .inl (kJ, 24, .inr (.inl f7)))]) hP hD [0, 1] [] rfl rfl (by decide) (by decide) hk1 hFc hP1 hD1
  generalize H1 = H at hP hS ⊢
  have hP : va_P (dC, dI) vwCl [(m0, .inr (11, oX11 ra (upd x0 0 0))), (ra 15, .inl (kJ, 24, .inr (.inl f7)))] H := hP
  have hD : va_D A [(m0, .inr (11, oX11 ra (upd x0 0 0))), (ra 15, .inl (kJ, 24, .inr (.inl f7)))] := hD
  refine W.widen (k := 0) (n := 0) (Nat.le_of_ble_eq_true rfl) (Nat.le_of_ble_eq_true rfl) ?_
  subst w6
  refine lv_goto (tgt := 39) hx hb dX11_missing_30 (by decide) ?_
  have hP9 := hP.sub (ws' := [(m0, .inr (11, oX11 ra (upd x0 0 0))), (ra 15, .inl (kJ, 24, .inr (.inl f7)))]) [0, 1] rfl
  have hD9 := hD.sub (ws' := [(m0, .inr (11, oX11 ra (upd x0 0 0))), (ra 15, .inl (kJ, 24, .inr (.inl f7)))]) [0, 1] (by decide) rfl
  exact W.lret (v := 1000000000000 - kv5 k 5) hx hb hr (fun t ht hW => ⟨⟨1000000000000 - kv5 k 5, (), rfl, rfl, upd x0 0 0, f7, (fI_u hX (k := 0) ((iv_w (iv_k (by decide) (by decide) : iv 0 0 0) (by decide) (by decide)))), (show 0 = 0 from rfl), by rw [ht]; exact hP9, hD9⟩, hS.F ht⟩) hS.2.2 dX11_missing_39
def rm_s10_missing_nlo : Room := { frames := 6, cells := 1, slots := 6, locals := 82 }
set_option maxHeartbeats 4000000 in
set_option maxRecDepth 100000 in
theorem s10_missing_nlo (l : Launch) (hst : l.stackTraces = false) (dC : Nat → ClassId) (dI : Nat → Nat → Nat) (kB kI kJ kZ kC kS : ClassId) (sz : Nat) (op : Nat) (p0 : Int32) (p1 : Int32) (hp0 : iv (-2147483648) (-1) p0) : vx_Met l yX10_missing wsX10_missing rm_s10_missing_nlo (va_Pc [.ref op, .int p0, .int p1] (fun U => U.heap.size = sz ∧ va_P (dC, dI) vwCl [] U.heap ∧ kE dC dI kB kI kJ kZ kC kS U ∧ va_D (fun _ => True) [] ∧ kX U ∧ kT (va_A [] sz) U)) (va_Ql (fun (r : Int64) (_ : Unit) => False) (fun _ t => va_P (dC, dI) vwCl [] t.heap ∧ va_D (va_A [] sz) []) (va_A [] sz)) (vx_X (fun (_ : Unit) => True) (fun (E : String) (_ : Unit) (t : State) => (E = "java/lang/IllegalArgumentException") ∧ va_P (dC, dI) vwCl [] t.heap ∧ va_D (va_A [] sz) []) (va_A [] sz)) 1 6 (va_A [] sz) := by
  refine vx_ofW (cc := cX10_missing) (maxL := 3) (ret := (some .long)) (by decide) rfl ?_
  intro p e s m args0 below meth c s₁ B hml hexT hv
  obtain ⟨hargs, hsz, hP, hE, hD0, hXs, hT⟩ := hv
  have hx := B.exec
  have hb := B.bytes
  have hr := B.returns
  have hts := atoms_spec (ws := wsX10_missing) B.pre
  have hown : s.vm.findClass RX10 = some m.cls := findClass_of_methodNamed B.named
  have hlocks := B.notSynchronized
  have hK := hE.1
  have hin10 : ∀ w ∈ wsX100, w ∈ wsX10_missing := fun _ h9 => List.mem_cons_of_mem _ (List.mem_append_left _ (List.mem_append_left _ (List.mem_append_right _ h9)))
  have hin4 : ∀ w ∈ wsX40, w ∈ wsX10_missing := fun _ h9 => List.mem_cons_of_mem _ (List.mem_append_left _ (List.mem_append_right _ h9))
  have hw_0 := hts (.classLink RX10 128 "java/lang/IllegalArgumentException") (List.mem_of_getElem? (i := 1) (by decide +kernel))
  have hw_1 := hts (.initialized "java/lang/IllegalArgumentException") (List.mem_of_getElem? (i := 2) (by decide +kernel))
  subst hsz
  have hD := hD0.self (sz := s.heap.size)
  generalize hAe : va_A [] s.heap.size = A at hD hT ⊢
  have hA : ∀ q : Nat, s.heap.size ≤ q → A q := fun q h => by rw [← hAe]; exact Or.inr h
  have hS : va_S A s.heap s.heap [] := va_S.rf
  have hP : va_P (dC, dI) vwCl [] s.heap := hP
  have hl := lv_entry ([.ref op, .int p0, .int p1]) (n := 3) (Nat.le_of_ble_eq_true rfl)
  have hla : entryFrame m args0 3 = entryFrame m ([.ref op, .int p0, .int p1] : List Value).toArray 3 := by rw [hargs]
  rw [hla, lg_entry_eq]
  generalize (lg_sl ([.ref op, .int p0, .int p1]) ++ List.replicate (3 - (lg_sl ([.ref op, .int p0, .int p1])).length) Slot.unset).toArray = ls at hl ⊢
  have hl : lv_has ls 3 [(0, .ref op), (1, .int p0), (2, .int p1)] := hl
  refine lv_iload_n hx hb dX10_missing_0 rfl (lv_at hl 1 rfl) ?_
  refine lv_if_lt (tgt := 20) hx hb dX10_missing_1 (by decide) (fun _ => ?_) (fun c9 => absurd (iv_lt hp0 (iv_k (by decide) (by decide) : iv 0 0 0) (by decide)) c9)
  have hP9 := hP.sub (ws' := []) [] rfl
  have hD9 := hD.sub (ws' := []) [] (by decide) rfl
  obtain ⟨sa1, hstr⟩ := hXs.2.2.2.2.2.2.2.2.2.1
  exact vx_throwSW (names := ["java/lang/RuntimeException", "java/lang/Exception"]) hx hb hst hown (by decide +kernel) (by decide +kernel) hw_0 hw_1 hstr (vx_hat (L := vx_atS RX10 132 "java/lang/IllegalArgumentException" ["java/lang/RuntimeException", "java/lang/Exception"]) (B := [.castable "java/lang/IllegalArgumentException" "java/lang/IllegalArgumentException", .declares ⟨"java/lang/RuntimeException", "<init>", "(Ljava/lang/String;)V"⟩, .declares ⟨"java/lang/Exception", "<init>", "(Ljava/lang/String;)V"⟩, .declares ⟨"java/lang/Throwable", "<init>", "(Ljava/lang/String;)V"⟩]) (fun w hw => hts w ((by decide +kernel : ∀ w ∈ (vx_atS RX10 132 "java/lang/IllegalArgumentException" ["java/lang/RuntimeException", "java/lang/Exception"]).filter goodWord, w ∈ wsX10_missing) w hw)) (by decide +kernel) (vx_c (va_Nw.use rfl hXs.2.1) (vx_c (va_Nw.use rfl hXs.2.2.1) (vx_c (va_Nw.use rfl hXs.2.2.2.1) (vx_c (va_Nw.use rfl hXs.2.2.2.2.1) (vx_n)))))) (by decide +kernel) hT.1 hT.2 hS (by rw [hml]; exact hl.1) dX10_missing_20 dX10_missing_23 dX10_missing_24 dX10_missing_27 dX10_missing_30 (fun x h9 => (hexT x h9).elim) (Nat.le_of_ble_eq_true rfl) (Nat.le_of_ble_eq_true rfl) (Nat.le_of_ble_eq_true rfl) (Nat.le_of_ble_eq_true rfl) hlocks (fun t9 _ h8 h9 => ⟨(), trivial, ⟨rfl, hP9.kept (fun k q hk => h9 q.1 (hP9 k q hk).lt), hD9⟩, Nat.le_trans hS.1 h8, fun q h1 h2 => (h9 q (Nat.lt_of_lt_of_le h1 hS.1)).trans (hS.2.1 q h1 h2)⟩) hS.2.2 (Nat.le_of_ble_eq_true rfl) (Nat.le_of_ble_eq_true rfl)
def rm_sL_missing_nlo : Room := { frames := 7, cells := 1, slots := 6, locals := 104 }
set_option maxHeartbeats 4000000 in
set_option maxRecDepth 100000 in
theorem sL_missing_nlo (l : Launch) (hst : l.stackTraces = false) (dC : Nat → ClassId) (dI : Nat → Nat → Nat) (kB kI kJ kZ kC kS : ClassId) (sz : Nat) (op : Nat) (ot : Nat) (on : Nat) (dn : Nat) (rd : Nat) (oc : Nat) (d : Nat) (o : Nat) (si : Nat) (w : Nat) (se : Nat) (nb : Nat) (hi : Nat) (p_status : Nat) (oe : Nat) (ih : Nat) (mb : Nat) (p_imageStatus : Nat) (x_p : Nat → Int32) (p0 : Int32) (p1 : Int32) (ou : Nat) (hp0 : iv (-2147483648) (-1) p0) : Met l yL_missing wsL_missing rm_sL_missing_nlo (va_Pc [.ref op, .int p0, .int p1, .ref ou] (fun U => U.heap.size = sz ∧ va_P (dC, dI) vwCl [(op, .inr (10, oX10 ot on dn rd oc d o si w se nb hi p_status oe ih mb p_imageStatus x_p))] U.heap ∧ kE dC dI kB kI kJ kZ kC kS U ∧ va_D (fun _ => True) [(op, .inr (10, oX10 ot on dn rd oc d o si w se nb hi p_status oe ih mb p_imageStatus x_p))] ∧ kX U ∧ kT (va_A [(op, .inr (10, oX10 ot on dn rd oc d o si w se nb hi p_status oe ih mb p_imageStatus x_p))] sz) U)) (va_Qi (fun (r : Int32) (_ : Unit) => r = 1) (fun _ t => va_P (dC, dI) vwCl [(op, .inr (10, oX10 ot on dn rd oc d o si w se nb hi p_status oe ih mb p_imageStatus x_p))] t.heap ∧ va_D (va_A [(op, .inr (10, oX10 ot on dn rd oc d o si w se nb hi p_status oe ih mb p_imageStatus x_p))] sz) [(op, .inr (10, oX10 ot on dn rd oc d o si w se nb hi p_status oe ih mb p_imageStatus x_p))]) (va_A [(op, .inr (10, oX10 ot on dn rd oc d o si w se nb hi p_status oe ih mb p_imageStatus x_p))] sz)) 1 6 (va_A [(op, .inr (10, oX10 ot on dn rd oc d o si w se nb hi p_status oe ih mb p_imageStatus x_p))] sz) := by
  refine va_MetW (cc := cL_missing) (maxL := 5) (ret := (some .int)) (by decide) rfl ?_
  intro p e s m args0 below meth c s₁ B hml hv
  obtain ⟨hargs, hsz, hP, hE, hD0, hXs, hT⟩ := hv
  have hx := B.exec
  have hb := B.bytes
  have hr := B.returns
  have hts := atoms_spec (ws := wsL_missing) B.pre
  have hown : s.vm.findClass RL = some m.cls := findClass_of_methodNamed B.named
  have hlocks := B.notSynchronized
  have hK := hE.1
  have hin10 : ∀ w ∈ wsX100, w ∈ wsL_missing := fun _ h9 => List.mem_cons_of_mem _ (List.mem_append_left _ (List.mem_append_left _ (List.mem_append_right _ h9)))
  have hin4 : ∀ w ∈ wsX40, w ∈ wsL_missing := fun _ h9 => List.mem_cons_of_mem _ (List.mem_append_left _ (List.mem_append_right _ h9))
  have hw_0 := hts (.classLink RL 13 "java/lang/IllegalArgumentException") (List.mem_of_getElem? (i := 1) (by decide +kernel))
  subst hsz
  have hD := hD0.self (sz := s.heap.size)
  generalize hAe : va_A [(op, .inr (10, oX10 ot on dn rd oc d o si w se nb hi p_status oe ih mb p_imageStatus x_p))] s.heap.size = A at hD hT ⊢
  have hA : ∀ q : Nat, s.heap.size ≤ q → A q := fun q h => by rw [← hAe]; exact Or.inr h
  have hS : va_S A s.heap s.heap [] := va_S.rf
  have hP : va_P (dC, dI) vwCl [(op, .inr (10, oX10 ot on dn rd oc d o si w se nb hi p_status oe ih mb p_imageStatus x_p))] s.heap := hP
  have hl := lv_entry ([.ref op, .int p0, .int p1, .ref ou]) (n := 5) (Nat.le_of_ble_eq_true rfl)
  have hla : entryFrame m args0 5 = entryFrame m ([.ref op, .int p0, .int p1, .ref ou] : List Value).toArray 5 := by rw [hargs]
  rw [hla, lg_entry_eq]
  generalize (lg_sl ([.ref op, .int p0, .int p1, .ref ou]) ++ List.replicate (5 - (lg_sl ([.ref op, .int p0, .int p1, .ref ou])).length) Slot.unset).toArray = ls at hl ⊢
  have hl : lv_has ls 5 [(0, .ref op), (1, .int p0), (2, .int p1), (3, .ref ou)] := hl
  refine lv_aload_n hx hb dL_missing_0 rfl (lv_at hl 3 rfl) ?_
  refine lv_iconst (v := 0) hx hb dL_missing_1 (by decide) ?_
  refine lv_aload_n hx hb dL_missing_2 rfl (lv_at hl 0 rfl) ?_
  refine lv_iload_n hx hb dL_missing_3 rfl (lv_at hl 1 rfl) ?_
  refine lv_iload_n hx hb dL_missing_4 rfl (lv_at hl 2 rfl) ?_
  have hPc := hP.sub (ws' := []) [] rfl
  have hDc := hD.sub (ws' := []) [] (by decide) rfl
  have hFc := va_free (wc := []) hD hS hA [] rfl
  refine vx_calll (vx_runV (As := [.int p0, .int p1]) (rest := [.int 0, .ref ou]) ⟨hx, hb, hml, hown, hts⟩ (s10_missing_nlo l hst dC dI kB kI kJ kZ kC kS s.heap.size op p0 p1 (hp0)) (cwV 2 hts gL_missing_X10_missing rfl rfl rfl (by decide +kernel) ⟨Nat.le_of_ble_eq_true rfl, Nat.le_of_ble_eq_true rfl⟩) ⟨fun a U g mk q => by obtain ⟨q0, q1, qP, qE, qD, qX, qT⟩ := q; exact ⟨q0, q1, qP, kE_call qE, qD, kX_call qX, kT_call qT⟩, va_recv hK hP (ci := 10) (q0 := 0) rfl rfl, fun U hU hW => ⟨rfl, by rw [hU], by rw [hU]; exact hPc, kE_warm hW hE, hDc.weaken (fun _ _ _ _ => trivial), kX_warm hW hXs, kT_at hT hS hFc hW hU⟩⟩ rfl rfl hl.1 rfl (lv_room (Nat.le_of_ble_eq_true rfl)) dL_missing_5 ⟨Nat.le_of_ble_eq_true rfl, Nat.le_of_ble_eq_true rfl⟩) hS (fun q _ h => hFc q h) hFc (fun q _ h => hFc q h) (fun E ce q9 u t H1 locs ht hvm hpx hBX hz1 hk1 hS hc9 hv9 hcl9 => ?_) (fun r1 u t H1 locs ht hvm w2 hB hz1 hk1 hS => ?_)
  · obtain ⟨hE9, hP1, hD1⟩ := hBX
    rw [ht] at hP1
    obtain ⟨hP, hD⟩ := va_join (wr := [(op, .inr (10, oX10 ot on dn rd oc d o si w se nb hi p_status oe ih mb p_imageStatus x_p))]) (w1 := []) hP hD [] [0] rfl rfl (by decide) (by decide) hk1 hFc hP1 hD1
    generalize H1 = H at hP hS hc9 ⊢
    have hP : va_P (dC, dI) vwCl [(op, .inr (10, oX10 ot on dn rd oc d o si w se nb hi p_status oe ih mb p_imageStatus x_p))] H := hP
    have hD : va_D A [(op, .inr (10, oX10 ot on dn rd oc d o si w se nb hi p_status oe ih mb p_imageStatus x_p))] := hD
    subst hE9
    have htab := vx_table (x := yL_missing) B (hts (.codeWith yL_missing cL_missing 5 (some .int) [(0, 9, 12, 13)]) (List.mem_of_getElem? (i := 0) (by decide +kernel)))
    refine vx_catch (name := "java/lang/IllegalArgumentException") hown [] ⟨0, 9, 12, 13⟩ [] (htab.trans rfl) (fun z h => absurd h List.not_mem_nil) rfl (by decide) hw_0 (va_Nw.use rfl hXs.2.1) hc9 hv9 hcl9 ?_
    refine W.widen (k := 1) (n := 6) (Nat.le_of_ble_eq_true rfl) (Nat.le_of_ble_eq_true rfl) ?_
    refine W.eq (g2 := F0 m 12 ls [.ref q9]) rfl ?_
    refine lv_astore (lv' := [(4, .ref q9), (0, .ref op), (1, .int p0), (2, .int p1), (3, .ref ou)]) hx hb dL_missing_12 hl (by decide) rfl (fun ls hl => ?_)
    refine lv_iconst (v := 1) hx hb dL_missing_14 (by decide) ?_
    have hP9 := hP.sub (ws' := [(op, .inr (10, oX10 ot on dn rd oc d o si w se nb hi p_status oe ih mb p_imageStatus x_p))]) [0] rfl
    have hD9 := hD.sub (ws' := [(op, .inr (10, oX10 ot on dn rd oc d o si w se nb hi p_status oe ih mb p_imageStatus x_p))]) [0] (by decide) rfl
    exact W.iret (v := 1) hx hb hr (fun t ht hW => ⟨⟨1, (), rfl, rfl, by rw [ht]; exact hP9, hD9⟩, hS.F ht⟩) hS.2.2 dL_missing_15
  · exact w2.elim
def rm_s11_missing_nlo : Room := { frames := 1, cells := 0, slots := 0, locals := 22 }
set_option maxHeartbeats 4000000 in
set_option maxRecDepth 100000 in
theorem s11_missing_nlo (l : Launch) (dC : Nat → ClassId) (dI : Nat → Nat → Nat) (kB kI kJ kZ kC kS : ClassId) (sz : Nat) (m0 : Nat) (ra : Nat → Nat) (x0 : Nat → Int32) (p0 : Int32) (p1 : Int32) (hX : fI lX11 hX11 x0) (hp0 : iv (-2147483648) (-1) p0) : Met l yX11_missing wsX11_missing rm_s11_missing_nlo (va_Pc [.ref m0, .int p0, .int p1] (fun U => U.heap.size = sz ∧ va_P (dC, dI) vwCl [(m0, .inr (11, oX11 ra x0))] U.heap ∧ kE dC dI kB kI kJ kZ kC kS U ∧ va_D (fun _ => True) [(m0, .inr (11, oX11 ra x0))])) (va_Ql (fun (r : Int64) (_ : Unit) => True) (fun _ t => ∃ (x0' : Nat → Int32), fI lX11 hX11 x0' ∧ (x0' 0 = 1) ∧ va_P (dC, dI) vwCl [(m0, .inr (11, oX11 ra x0'))] t.heap ∧ va_D (va_A [(m0, .inr (11, oX11 ra x0))] sz) [(m0, .inr (11, oX11 ra x0'))]) (va_A [(m0, .inr (11, oX11 ra x0))] sz)) 0 0 (va_A [(m0, .inr (11, oX11 ra x0))] sz) := by
  refine Met.ofW (cc := cX11_missing) (maxL := 3) (ret := (some .long)) (by decide) rfl ?_
  intro p e s m args0 below meth c s₁ B hml hv
  obtain ⟨hargs, hsz, hP, hE, hD0⟩ := hv
  have hx := B.exec
  have hb := B.bytes
  have hr := B.returns
  have hts := atoms_spec (ws := wsX11_missing) B.pre
  have hown : s.vm.findClass RX11 = some m.cls := findClass_of_methodNamed B.named
  have hlocks := B.notSynchronized
  have hK := hE.1
  have hin11 : ∀ w ∈ wsX110, w ∈ wsX11_missing := fun _ h9 => List.mem_cons_of_mem _ (List.mem_append_right _ h9)
  have hw_0 := hts (.fieldLink RX11 142 "PathProberModel" "code" "I") (List.mem_of_getElem? (i := 1) (by decide +kernel))
  subst hsz
  have hD := hD0.self (sz := s.heap.size)
  generalize hAe : va_A [(m0, .inr (11, oX11 ra x0))] s.heap.size = A at hD ⊢
  have hA : ∀ q : Nat, s.heap.size ≤ q → A q := fun q h => by rw [← hAe]; exact Or.inr h
  have hS : va_S A s.heap s.heap [] := va_S.rf
  have hP : va_P (dC, dI) vwCl [(m0, .inr (11, oX11 ra x0))] s.heap := hP
  have hl := lv_entry ([.ref m0, .int p0, .int p1]) (n := 3) (Nat.le_of_ble_eq_true rfl)
  have hla : entryFrame m args0 3 = entryFrame m ([.ref m0, .int p0, .int p1] : List Value).toArray 3 := by rw [hargs]
  rw [hla, lg_entry_eq]
  generalize (lg_sl ([.ref m0, .int p0, .int p1]) ++ List.replicate (3 - (lg_sl ([.ref m0, .int p0, .int p1])).length) Slot.unset).toArray = ls at hl ⊢
  have hl : lv_has ls 3 [(0, .ref m0), (1, .int p0), (2, .int p1)] := hl
  refine lv_aload_n hx hb dX11_missing_0 rfl (lv_at hl 0 rfl) ?_
  refine lv_iconst (v := 0) hx hb dX11_missing_1 (by decide) ?_
  refine va_put (D := (dC, dI)) (ci := 11) (v := .int 0) (ty := .int) (C := RX11) (T := TX11) (N := 61) hx hb hts hin11 tyX11 tyX11_ok nmX11 hown hK hP hD hS 0 rfl rfl 2 (by decide) hw_0 (fun _ h9 => h9) rfl (by decide +kernel) rfl rfl (Nat.le_of_ble_eq_true rfl) dX11_missing_2 (fun H locs hP hD hS => ?_)
  have hP : va_P (dC, dI) vwCl [(m0, .inr (11, oX11 ra (upd x0 0 0)))] H := hP
  have hD : va_D A [(m0, .inr (11, oX11 ra (upd x0 0 0)))] := hD
  refine lv_iload_n hx hb dX11_missing_5 rfl (lv_at hl 1 rfl) ?_
  refine lv_iconst (v := 0) hx hb dX11_missing_6 (by decide) ?_
  refine lv_bipush (v := 60) hx hb dX11_missing_7 (by decide) ?_
  have hPc := hP.sub (ws' := []) [] rfl
  have hDc := hD.sub (ws' := []) [] (by decide) rfl
  have hFc := va_free (wc := []) hD hS hA [] rfl
  refine va_calli (va_runS (As := [.int p0, .int 0, .int 60]) (rest := []) ⟨hx, hb, hml, hown, hts⟩ (s11_isIn l dC dI kB kI kJ kZ kC kS H.size p0 0 60) (va_cwS 3 hts gX11_missing_X11_isIn rfl rfl rfl (by decide +kernel) ⟨Nat.le_of_ble_eq_true rfl, Nat.le_of_ble_eq_true rfl⟩) ⟨fun a U g mk q => by obtain ⟨q0, q1, qP, qE, qD⟩ := q; exact ⟨q0, q1, qP, kE_call qE, qD⟩, fun U hU hW => ⟨rfl, by rw [hU], by rw [hU]; exact hPc, kE_warm hW hE, hDc.weaken (fun _ _ _ _ => trivial)⟩⟩ rfl rfl hl.1 rfl (lv_room (Nat.le_of_ble_eq_true rfl)) dX11_missing_9 ⟨Nat.le_of_ble_eq_true rfl, Nat.le_of_ble_eq_true rfl⟩) hS (fun q _ h => hFc q h) hFc (fun r1 u t H1 locs ht hvm w2 hB hz1 hk1 hS => ?_)
  obtain ⟨hP1, hD1⟩ := hB
  rw [ht] at hP1
  try dsimp only at w2
  obtain ⟨hP, hD⟩ := va_join (wr := [(m0, .inr (11, oX11 ra (upd x0 0 0)))]) (w1 := []) hP hD [] [0] rfl rfl (by decide) (by decide) hk1 hFc hP1 hD1
  generalize H1 = H at hP hS ⊢
  have hP : va_P (dC, dI) vwCl [(m0, .inr (11, oX11 ra (upd x0 0 0)))] H := hP
  have hD : va_D A [(m0, .inr (11, oX11 ra (upd x0 0 0)))] := hD
  refine W.widen (k := 0) (n := 0) (Nat.le_of_ble_eq_true rfl) (Nat.le_of_ble_eq_true rfl) ?_
  refine lv_if_eq (tgt := 33) hx hb dX11_missing_12 (by decide) (fun c3 => ?_) (fun c3 => ?_)
  · have b4 : iv 0 0 r1 := iv_eqL c3 (iv_k (by decide) (by decide) : iv 0 0 0)
    refine lv_aload_n hx hb dX11_missing_33 rfl (lv_at hl 0 rfl) ?_
    refine lv_iconst (v := 1) hx hb dX11_missing_34 (by decide) ?_
    have hPc := hP.sub (ws' := [(m0, .inr (11, oX11 ra (upd x0 0 0)))]) [0] rfl
    have hDc := hD.sub (ws' := [(m0, .inr (11, oX11 ra (upd x0 0 0)))]) [0] (by decide) rfl
    have hFc := va_free (wc := [(m0, .inr (11, oX11 ra (upd x0 0 0)))]) hD hS hA [0] rfl
    refine va_calli (va_runV (As := [.int 1]) (rest := []) ⟨hx, hb, hml, hown, hts⟩ (s11_fail l dC dI kB kI kJ kZ kC kS H.size m0 ra (upd x0 0 0) 1 ((fI_u hX (k := 0) ((iv_w (iv_k (by decide) (by decide) : iv 0 0 0) (by decide) (by decide)))))) (cwV 1 hts gX11_missing_X11_fail rfl rfl rfl (by decide +kernel) ⟨Nat.le_of_ble_eq_true rfl, Nat.le_of_ble_eq_true rfl⟩) ⟨fun a U g mk q => by obtain ⟨q0, q1, qP, qE, qD⟩ := q; exact ⟨q0, q1, qP, kE_call qE, qD⟩, va_recv hK hP (ci := 11) (q0 := 0) rfl rfl, fun U hU hW => ⟨rfl, by rw [hU], by rw [hU]; exact hPc, kE_warm hW hE, hDc.weaken (fun _ _ _ _ => trivial)⟩⟩ rfl rfl hl.1 rfl (lv_room (Nat.le_of_ble_eq_true rfl)) dX11_missing_35 ⟨Nat.le_of_ble_eq_true rfl, Nat.le_of_ble_eq_true rfl⟩) hS (fun q _ h => hFc q h) hFc (fun r5 u t H1 locs ht hvm w6 hB hz1 hk1 hS => ?_)
    obtain ⟨y7, hq8, hq9, hP1, hD1⟩ := hB
    rw [ht] at hP1
    try dsimp only at w6
    obtain ⟨hP, hD⟩ := va_join (wr := []) (w1 := [(m0, .inr (11, oX11 ra y7))]) hP hD [0] [] rfl rfl (by decide) (by decide) hk1 hFc hP1 hD1
    generalize H1 = H at hP hS ⊢
    have hP : va_P (dC, dI) vwCl [(m0, .inr (11, oX11 ra y7))] H := hP
    have hD : va_D A [(m0, .inr (11, oX11 ra y7))] := hD
    refine W.widen (k := 0) (n := 0) (Nat.le_of_ble_eq_true rfl) (Nat.le_of_ble_eq_true rfl) ?_
    obtain rfl : r5 = 0 := iv_one w6 (by decide)
    refine lv_i2l (v := 0) hx hb dX11_missing_38 (by decide) ?_
    have hP9 := hP.sub (ws' := [(m0, .inr (11, oX11 ra y7))]) [0] rfl
    have hD9 := hD.sub (ws' := [(m0, .inr (11, oX11 ra y7))]) [0] (by decide) rfl
    exact W.lret (v := 0) hx hb hr (fun t ht hW => ⟨⟨0, (), rfl, trivial, y7, hq8, (show y7 0 = 1 from hq9), by rw [ht]; exact hP9, hD9⟩, hS.F ht⟩) hS.2.2 dX11_missing_39
  · have b10 : iv 1 1 r1 := iv_neLo c3 w2.1 (iv_k (by decide) (by decide) : iv 0 0 0) (by decide) (by decide)
    have hr11 := (w2.2).resolve_left (iv_ne b10 (iv_k (by decide) (by decide) : iv 0 0 0) (by decide))
    have b12 : iv 0 (-1) p0 := iv_cap (in_iv hr11 (iv_k (by decide) (by decide) : iv 0 0 0) (iv_k (by decide) (by decide) : iv 60 60 60)) hp0 (by decide) (by decide)
    exact (iv_no b12 (by decide)).elim
def rm_s10_missing_nhi : Room := { frames := 6, cells := 1, slots := 6, locals := 82 }
set_option maxHeartbeats 4000000 in
set_option maxRecDepth 100000 in
theorem s10_missing_nhi (l : Launch) (hst : l.stackTraces = false) (dC : Nat → ClassId) (dI : Nat → Nat → Nat) (kB kI kJ kZ kC kS : ClassId) (sz : Nat) (op : Nat) (p0 : Int32) (p1 : Int32) (hp0 : iv 61 2147483647 p0) : vx_Met l yX10_missing wsX10_missing rm_s10_missing_nhi (va_Pc [.ref op, .int p0, .int p1] (fun U => U.heap.size = sz ∧ va_P (dC, dI) vwCl [] U.heap ∧ kE dC dI kB kI kJ kZ kC kS U ∧ va_D (fun _ => True) [] ∧ kX U ∧ kT (va_A [] sz) U)) (va_Ql (fun (r : Int64) (_ : Unit) => False) (fun _ t => va_P (dC, dI) vwCl [] t.heap ∧ va_D (va_A [] sz) []) (va_A [] sz)) (vx_X (fun (_ : Unit) => True) (fun (E : String) (_ : Unit) (t : State) => (E = "java/lang/IllegalArgumentException") ∧ va_P (dC, dI) vwCl [] t.heap ∧ va_D (va_A [] sz) []) (va_A [] sz)) 1 6 (va_A [] sz) := by
  refine vx_ofW (cc := cX10_missing) (maxL := 3) (ret := (some .long)) (by decide) rfl ?_
  intro p e s m args0 below meth c s₁ B hml hexT hv
  obtain ⟨hargs, hsz, hP, hE, hD0, hXs, hT⟩ := hv
  have hx := B.exec
  have hb := B.bytes
  have hr := B.returns
  have hts := atoms_spec (ws := wsX10_missing) B.pre
  have hown : s.vm.findClass RX10 = some m.cls := findClass_of_methodNamed B.named
  have hlocks := B.notSynchronized
  have hK := hE.1
  have hin10 : ∀ w ∈ wsX100, w ∈ wsX10_missing := fun _ h9 => List.mem_cons_of_mem _ (List.mem_append_left _ (List.mem_append_left _ (List.mem_append_right _ h9)))
  have hin4 : ∀ w ∈ wsX40, w ∈ wsX10_missing := fun _ h9 => List.mem_cons_of_mem _ (List.mem_append_left _ (List.mem_append_right _ h9))
  have hw_0 := hts (.classLink RX10 128 "java/lang/IllegalArgumentException") (List.mem_of_getElem? (i := 1) (by decide +kernel))
  have hw_1 := hts (.initialized "java/lang/IllegalArgumentException") (List.mem_of_getElem? (i := 2) (by decide +kernel))
  subst hsz
  have hD := hD0.self (sz := s.heap.size)
  generalize hAe : va_A [] s.heap.size = A at hD hT ⊢
  have hA : ∀ q : Nat, s.heap.size ≤ q → A q := fun q h => by rw [← hAe]; exact Or.inr h
  have hS : va_S A s.heap s.heap [] := va_S.rf
  have hP : va_P (dC, dI) vwCl [] s.heap := hP
  have hl := lv_entry ([.ref op, .int p0, .int p1]) (n := 3) (Nat.le_of_ble_eq_true rfl)
  have hla : entryFrame m args0 3 = entryFrame m ([.ref op, .int p0, .int p1] : List Value).toArray 3 := by rw [hargs]
  rw [hla, lg_entry_eq]
  generalize (lg_sl ([.ref op, .int p0, .int p1]) ++ List.replicate (3 - (lg_sl ([.ref op, .int p0, .int p1])).length) Slot.unset).toArray = ls at hl ⊢
  have hl : lv_has ls 3 [(0, .ref op), (1, .int p0), (2, .int p1)] := hl
  refine lv_iload_n hx hb dX10_missing_0 rfl (lv_at hl 1 rfl) ?_
  refine lv_if_lt (tgt := 20) hx hb dX10_missing_1 (by decide) (fun c9 => absurd c9 (iv_nlt hp0 (iv_k (by decide) (by decide) : iv 0 0 0) (by decide))) (fun _ => ?_)
  refine lv_iload_n hx hb dX10_missing_4 rfl (lv_at hl 1 rfl) ?_
  refine lv_bipush (v := 60) hx hb dX10_missing_5 (by decide) ?_
  refine lv_icmp_gt (tgt := 20) hx hb dX10_missing_7 (by decide) (fun _ => ?_) (fun c9 => absurd (iv_lt (iv_k (by decide) (by decide) : iv 60 60 60) hp0 (by decide)) c9)
  have hP9 := hP.sub (ws' := []) [] rfl
  have hD9 := hD.sub (ws' := []) [] (by decide) rfl
  obtain ⟨sa1, hstr⟩ := hXs.2.2.2.2.2.2.2.2.2.1
  exact vx_throwSW (names := ["java/lang/RuntimeException", "java/lang/Exception"]) hx hb hst hown (by decide +kernel) (by decide +kernel) hw_0 hw_1 hstr (vx_hat (L := vx_atS RX10 132 "java/lang/IllegalArgumentException" ["java/lang/RuntimeException", "java/lang/Exception"]) (B := [.castable "java/lang/IllegalArgumentException" "java/lang/IllegalArgumentException", .declares ⟨"java/lang/RuntimeException", "<init>", "(Ljava/lang/String;)V"⟩, .declares ⟨"java/lang/Exception", "<init>", "(Ljava/lang/String;)V"⟩, .declares ⟨"java/lang/Throwable", "<init>", "(Ljava/lang/String;)V"⟩]) (fun w hw => hts w ((by decide +kernel : ∀ w ∈ (vx_atS RX10 132 "java/lang/IllegalArgumentException" ["java/lang/RuntimeException", "java/lang/Exception"]).filter goodWord, w ∈ wsX10_missing) w hw)) (by decide +kernel) (vx_c (va_Nw.use rfl hXs.2.1) (vx_c (va_Nw.use rfl hXs.2.2.1) (vx_c (va_Nw.use rfl hXs.2.2.2.1) (vx_c (va_Nw.use rfl hXs.2.2.2.2.1) (vx_n)))))) (by decide +kernel) hT.1 hT.2 hS (by rw [hml]; exact hl.1) dX10_missing_20 dX10_missing_23 dX10_missing_24 dX10_missing_27 dX10_missing_30 (fun x h9 => (hexT x h9).elim) (Nat.le_of_ble_eq_true rfl) (Nat.le_of_ble_eq_true rfl) (Nat.le_of_ble_eq_true rfl) (Nat.le_of_ble_eq_true rfl) hlocks (fun t9 _ h8 h9 => ⟨(), trivial, ⟨rfl, hP9.kept (fun k q hk => h9 q.1 (hP9 k q hk).lt), hD9⟩, Nat.le_trans hS.1 h8, fun q h1 h2 => (h9 q (Nat.lt_of_lt_of_le h1 hS.1)).trans (hS.2.1 q h1 h2)⟩) hS.2.2 (Nat.le_of_ble_eq_true rfl) (Nat.le_of_ble_eq_true rfl)
def rm_sL_missing_nhi : Room := { frames := 7, cells := 1, slots := 6, locals := 104 }
set_option maxHeartbeats 4000000 in
set_option maxRecDepth 100000 in
theorem sL_missing_nhi (l : Launch) (hst : l.stackTraces = false) (dC : Nat → ClassId) (dI : Nat → Nat → Nat) (kB kI kJ kZ kC kS : ClassId) (sz : Nat) (op : Nat) (ot : Nat) (on : Nat) (dn : Nat) (rd : Nat) (oc : Nat) (d : Nat) (o : Nat) (si : Nat) (w : Nat) (se : Nat) (nb : Nat) (hi : Nat) (p_status : Nat) (oe : Nat) (ih : Nat) (mb : Nat) (p_imageStatus : Nat) (x_p : Nat → Int32) (p0 : Int32) (p1 : Int32) (ou : Nat) (hp0 : iv 61 2147483647 p0) : Met l yL_missing wsL_missing rm_sL_missing_nhi (va_Pc [.ref op, .int p0, .int p1, .ref ou] (fun U => U.heap.size = sz ∧ va_P (dC, dI) vwCl [(op, .inr (10, oX10 ot on dn rd oc d o si w se nb hi p_status oe ih mb p_imageStatus x_p))] U.heap ∧ kE dC dI kB kI kJ kZ kC kS U ∧ va_D (fun _ => True) [(op, .inr (10, oX10 ot on dn rd oc d o si w se nb hi p_status oe ih mb p_imageStatus x_p))] ∧ kX U ∧ kT (va_A [(op, .inr (10, oX10 ot on dn rd oc d o si w se nb hi p_status oe ih mb p_imageStatus x_p))] sz) U)) (va_Qi (fun (r : Int32) (_ : Unit) => r = 1) (fun _ t => va_P (dC, dI) vwCl [(op, .inr (10, oX10 ot on dn rd oc d o si w se nb hi p_status oe ih mb p_imageStatus x_p))] t.heap ∧ va_D (va_A [(op, .inr (10, oX10 ot on dn rd oc d o si w se nb hi p_status oe ih mb p_imageStatus x_p))] sz) [(op, .inr (10, oX10 ot on dn rd oc d o si w se nb hi p_status oe ih mb p_imageStatus x_p))]) (va_A [(op, .inr (10, oX10 ot on dn rd oc d o si w se nb hi p_status oe ih mb p_imageStatus x_p))] sz)) 1 6 (va_A [(op, .inr (10, oX10 ot on dn rd oc d o si w se nb hi p_status oe ih mb p_imageStatus x_p))] sz) := by
  refine va_MetW (cc := cL_missing) (maxL := 5) (ret := (some .int)) (by decide) rfl ?_
  intro p e s m args0 below meth c s₁ B hml hv
  obtain ⟨hargs, hsz, hP, hE, hD0, hXs, hT⟩ := hv
  have hx := B.exec
  have hb := B.bytes
  have hr := B.returns
  have hts := atoms_spec (ws := wsL_missing) B.pre
  have hown : s.vm.findClass RL = some m.cls := findClass_of_methodNamed B.named
  have hlocks := B.notSynchronized
  have hK := hE.1
  have hin10 : ∀ w ∈ wsX100, w ∈ wsL_missing := fun _ h9 => List.mem_cons_of_mem _ (List.mem_append_left _ (List.mem_append_left _ (List.mem_append_right _ h9)))
  have hin4 : ∀ w ∈ wsX40, w ∈ wsL_missing := fun _ h9 => List.mem_cons_of_mem _ (List.mem_append_left _ (List.mem_append_right _ h9))
  have hw_0 := hts (.classLink RL 13 "java/lang/IllegalArgumentException") (List.mem_of_getElem? (i := 1) (by decide +kernel))
  subst hsz
  have hD := hD0.self (sz := s.heap.size)
  generalize hAe : va_A [(op, .inr (10, oX10 ot on dn rd oc d o si w se nb hi p_status oe ih mb p_imageStatus x_p))] s.heap.size = A at hD hT ⊢
  have hA : ∀ q : Nat, s.heap.size ≤ q → A q := fun q h => by rw [← hAe]; exact Or.inr h
  have hS : va_S A s.heap s.heap [] := va_S.rf
  have hP : va_P (dC, dI) vwCl [(op, .inr (10, oX10 ot on dn rd oc d o si w se nb hi p_status oe ih mb p_imageStatus x_p))] s.heap := hP
  have hl := lv_entry ([.ref op, .int p0, .int p1, .ref ou]) (n := 5) (Nat.le_of_ble_eq_true rfl)
  have hla : entryFrame m args0 5 = entryFrame m ([.ref op, .int p0, .int p1, .ref ou] : List Value).toArray 5 := by rw [hargs]
  rw [hla, lg_entry_eq]
  generalize (lg_sl ([.ref op, .int p0, .int p1, .ref ou]) ++ List.replicate (5 - (lg_sl ([.ref op, .int p0, .int p1, .ref ou])).length) Slot.unset).toArray = ls at hl ⊢
  have hl : lv_has ls 5 [(0, .ref op), (1, .int p0), (2, .int p1), (3, .ref ou)] := hl
  refine lv_aload_n hx hb dL_missing_0 rfl (lv_at hl 3 rfl) ?_
  refine lv_iconst (v := 0) hx hb dL_missing_1 (by decide) ?_
  refine lv_aload_n hx hb dL_missing_2 rfl (lv_at hl 0 rfl) ?_
  refine lv_iload_n hx hb dL_missing_3 rfl (lv_at hl 1 rfl) ?_
  refine lv_iload_n hx hb dL_missing_4 rfl (lv_at hl 2 rfl) ?_
  have hPc := hP.sub (ws' := []) [] rfl
  have hDc := hD.sub (ws' := []) [] (by decide) rfl
  have hFc := va_free (wc := []) hD hS hA [] rfl
  refine vx_calll (vx_runV (As := [.int p0, .int p1]) (rest := [.int 0, .ref ou]) ⟨hx, hb, hml, hown, hts⟩ (s10_missing_nhi l hst dC dI kB kI kJ kZ kC kS s.heap.size op p0 p1 (hp0)) (cwV 2 hts gL_missing_X10_missing rfl rfl rfl (by decide +kernel) ⟨Nat.le_of_ble_eq_true rfl, Nat.le_of_ble_eq_true rfl⟩) ⟨fun a U g mk q => by obtain ⟨q0, q1, qP, qE, qD, qX, qT⟩ := q; exact ⟨q0, q1, qP, kE_call qE, qD, kX_call qX, kT_call qT⟩, va_recv hK hP (ci := 10) (q0 := 0) rfl rfl, fun U hU hW => ⟨rfl, by rw [hU], by rw [hU]; exact hPc, kE_warm hW hE, hDc.weaken (fun _ _ _ _ => trivial), kX_warm hW hXs, kT_at hT hS hFc hW hU⟩⟩ rfl rfl hl.1 rfl (lv_room (Nat.le_of_ble_eq_true rfl)) dL_missing_5 ⟨Nat.le_of_ble_eq_true rfl, Nat.le_of_ble_eq_true rfl⟩) hS (fun q _ h => hFc q h) hFc (fun q _ h => hFc q h) (fun E ce q9 u t H1 locs ht hvm hpx hBX hz1 hk1 hS hc9 hv9 hcl9 => ?_) (fun r1 u t H1 locs ht hvm w2 hB hz1 hk1 hS => ?_)
  · obtain ⟨hE9, hP1, hD1⟩ := hBX
    rw [ht] at hP1
    obtain ⟨hP, hD⟩ := va_join (wr := [(op, .inr (10, oX10 ot on dn rd oc d o si w se nb hi p_status oe ih mb p_imageStatus x_p))]) (w1 := []) hP hD [] [0] rfl rfl (by decide) (by decide) hk1 hFc hP1 hD1
    generalize H1 = H at hP hS hc9 ⊢
    have hP : va_P (dC, dI) vwCl [(op, .inr (10, oX10 ot on dn rd oc d o si w se nb hi p_status oe ih mb p_imageStatus x_p))] H := hP
    have hD : va_D A [(op, .inr (10, oX10 ot on dn rd oc d o si w se nb hi p_status oe ih mb p_imageStatus x_p))] := hD
    subst hE9
    have htab := vx_table (x := yL_missing) B (hts (.codeWith yL_missing cL_missing 5 (some .int) [(0, 9, 12, 13)]) (List.mem_of_getElem? (i := 0) (by decide +kernel)))
    refine vx_catch (name := "java/lang/IllegalArgumentException") hown [] ⟨0, 9, 12, 13⟩ [] (htab.trans rfl) (fun z h => absurd h List.not_mem_nil) rfl (by decide) hw_0 (va_Nw.use rfl hXs.2.1) hc9 hv9 hcl9 ?_
    refine W.widen (k := 1) (n := 6) (Nat.le_of_ble_eq_true rfl) (Nat.le_of_ble_eq_true rfl) ?_
    refine W.eq (g2 := F0 m 12 ls [.ref q9]) rfl ?_
    refine lv_astore (lv' := [(4, .ref q9), (0, .ref op), (1, .int p0), (2, .int p1), (3, .ref ou)]) hx hb dL_missing_12 hl (by decide) rfl (fun ls hl => ?_)
    refine lv_iconst (v := 1) hx hb dL_missing_14 (by decide) ?_
    have hP9 := hP.sub (ws' := [(op, .inr (10, oX10 ot on dn rd oc d o si w se nb hi p_status oe ih mb p_imageStatus x_p))]) [0] rfl
    have hD9 := hD.sub (ws' := [(op, .inr (10, oX10 ot on dn rd oc d o si w se nb hi p_status oe ih mb p_imageStatus x_p))]) [0] (by decide) rfl
    exact W.iret (v := 1) hx hb hr (fun t ht hW => ⟨⟨1, (), rfl, rfl, by rw [ht]; exact hP9, hD9⟩, hS.F ht⟩) hS.2.2 dL_missing_15
  · exact w2.elim
def rm_s11_missing_nhi : Room := { frames := 1, cells := 0, slots := 0, locals := 22 }
set_option maxHeartbeats 4000000 in
set_option maxRecDepth 100000 in
theorem s11_missing_nhi (l : Launch) (dC : Nat → ClassId) (dI : Nat → Nat → Nat) (kB kI kJ kZ kC kS : ClassId) (sz : Nat) (m0 : Nat) (ra : Nat → Nat) (x0 : Nat → Int32) (p0 : Int32) (p1 : Int32) (hX : fI lX11 hX11 x0) (hp0 : iv 61 2147483647 p0) : Met l yX11_missing wsX11_missing rm_s11_missing_nhi (va_Pc [.ref m0, .int p0, .int p1] (fun U => U.heap.size = sz ∧ va_P (dC, dI) vwCl [(m0, .inr (11, oX11 ra x0))] U.heap ∧ kE dC dI kB kI kJ kZ kC kS U ∧ va_D (fun _ => True) [(m0, .inr (11, oX11 ra x0))])) (va_Ql (fun (r : Int64) (_ : Unit) => True) (fun _ t => ∃ (x0' : Nat → Int32), fI lX11 hX11 x0' ∧ (x0' 0 = 1) ∧ va_P (dC, dI) vwCl [(m0, .inr (11, oX11 ra x0'))] t.heap ∧ va_D (va_A [(m0, .inr (11, oX11 ra x0))] sz) [(m0, .inr (11, oX11 ra x0'))]) (va_A [(m0, .inr (11, oX11 ra x0))] sz)) 0 0 (va_A [(m0, .inr (11, oX11 ra x0))] sz) := by
  refine Met.ofW (cc := cX11_missing) (maxL := 3) (ret := (some .long)) (by decide) rfl ?_
  intro p e s m args0 below meth c s₁ B hml hv
  obtain ⟨hargs, hsz, hP, hE, hD0⟩ := hv
  have hx := B.exec
  have hb := B.bytes
  have hr := B.returns
  have hts := atoms_spec (ws := wsX11_missing) B.pre
  have hown : s.vm.findClass RX11 = some m.cls := findClass_of_methodNamed B.named
  have hlocks := B.notSynchronized
  have hK := hE.1
  have hin11 : ∀ w ∈ wsX110, w ∈ wsX11_missing := fun _ h9 => List.mem_cons_of_mem _ (List.mem_append_right _ h9)
  have hw_0 := hts (.fieldLink RX11 142 "PathProberModel" "code" "I") (List.mem_of_getElem? (i := 1) (by decide +kernel))
  subst hsz
  have hD := hD0.self (sz := s.heap.size)
  generalize hAe : va_A [(m0, .inr (11, oX11 ra x0))] s.heap.size = A at hD ⊢
  have hA : ∀ q : Nat, s.heap.size ≤ q → A q := fun q h => by rw [← hAe]; exact Or.inr h
  have hS : va_S A s.heap s.heap [] := va_S.rf
  have hP : va_P (dC, dI) vwCl [(m0, .inr (11, oX11 ra x0))] s.heap := hP
  have hl := lv_entry ([.ref m0, .int p0, .int p1]) (n := 3) (Nat.le_of_ble_eq_true rfl)
  have hla : entryFrame m args0 3 = entryFrame m ([.ref m0, .int p0, .int p1] : List Value).toArray 3 := by rw [hargs]
  rw [hla, lg_entry_eq]
  generalize (lg_sl ([.ref m0, .int p0, .int p1]) ++ List.replicate (3 - (lg_sl ([.ref m0, .int p0, .int p1])).length) Slot.unset).toArray = ls at hl ⊢
  have hl : lv_has ls 3 [(0, .ref m0), (1, .int p0), (2, .int p1)] := hl
  refine lv_aload_n hx hb dX11_missing_0 rfl (lv_at hl 0 rfl) ?_
  refine lv_iconst (v := 0) hx hb dX11_missing_1 (by decide) ?_
  refine va_put (D := (dC, dI)) (ci := 11) (v := .int 0) (ty := .int) (C := RX11) (T := TX11) (N := 61) hx hb hts hin11 tyX11 tyX11_ok nmX11 hown hK hP hD hS 0 rfl rfl 2 (by decide) hw_0 (fun _ h9 => h9) rfl (by decide +kernel) rfl rfl (Nat.le_of_ble_eq_true rfl) dX11_missing_2 (fun H locs hP hD hS => ?_)
  have hP : va_P (dC, dI) vwCl [(m0, .inr (11, oX11 ra (upd x0 0 0)))] H := hP
  have hD : va_D A [(m0, .inr (11, oX11 ra (upd x0 0 0)))] := hD
  refine lv_iload_n hx hb dX11_missing_5 rfl (lv_at hl 1 rfl) ?_
  refine lv_iconst (v := 0) hx hb dX11_missing_6 (by decide) ?_
  refine lv_bipush (v := 60) hx hb dX11_missing_7 (by decide) ?_
  have hPc := hP.sub (ws' := []) [] rfl
  have hDc := hD.sub (ws' := []) [] (by decide) rfl
  have hFc := va_free (wc := []) hD hS hA [] rfl
  refine va_calli (va_runS (As := [.int p0, .int 0, .int 60]) (rest := []) ⟨hx, hb, hml, hown, hts⟩ (s11_isIn l dC dI kB kI kJ kZ kC kS H.size p0 0 60) (va_cwS 3 hts gX11_missing_X11_isIn rfl rfl rfl (by decide +kernel) ⟨Nat.le_of_ble_eq_true rfl, Nat.le_of_ble_eq_true rfl⟩) ⟨fun a U g mk q => by obtain ⟨q0, q1, qP, qE, qD⟩ := q; exact ⟨q0, q1, qP, kE_call qE, qD⟩, fun U hU hW => ⟨rfl, by rw [hU], by rw [hU]; exact hPc, kE_warm hW hE, hDc.weaken (fun _ _ _ _ => trivial)⟩⟩ rfl rfl hl.1 rfl (lv_room (Nat.le_of_ble_eq_true rfl)) dX11_missing_9 ⟨Nat.le_of_ble_eq_true rfl, Nat.le_of_ble_eq_true rfl⟩) hS (fun q _ h => hFc q h) hFc (fun r1 u t H1 locs ht hvm w2 hB hz1 hk1 hS => ?_)
  obtain ⟨hP1, hD1⟩ := hB
  rw [ht] at hP1
  try dsimp only at w2
  obtain ⟨hP, hD⟩ := va_join (wr := [(m0, .inr (11, oX11 ra (upd x0 0 0)))]) (w1 := []) hP hD [] [0] rfl rfl (by decide) (by decide) hk1 hFc hP1 hD1
  generalize H1 = H at hP hS ⊢
  have hP : va_P (dC, dI) vwCl [(m0, .inr (11, oX11 ra (upd x0 0 0)))] H := hP
  have hD : va_D A [(m0, .inr (11, oX11 ra (upd x0 0 0)))] := hD
  refine W.widen (k := 0) (n := 0) (Nat.le_of_ble_eq_true rfl) (Nat.le_of_ble_eq_true rfl) ?_
  refine lv_if_eq (tgt := 33) hx hb dX11_missing_12 (by decide) (fun c3 => ?_) (fun c3 => ?_)
  · have b4 : iv 0 0 r1 := iv_eqL c3 (iv_k (by decide) (by decide) : iv 0 0 0)
    refine lv_aload_n hx hb dX11_missing_33 rfl (lv_at hl 0 rfl) ?_
    refine lv_iconst (v := 1) hx hb dX11_missing_34 (by decide) ?_
    have hPc := hP.sub (ws' := [(m0, .inr (11, oX11 ra (upd x0 0 0)))]) [0] rfl
    have hDc := hD.sub (ws' := [(m0, .inr (11, oX11 ra (upd x0 0 0)))]) [0] (by decide) rfl
    have hFc := va_free (wc := [(m0, .inr (11, oX11 ra (upd x0 0 0)))]) hD hS hA [0] rfl
    refine va_calli (va_runV (As := [.int 1]) (rest := []) ⟨hx, hb, hml, hown, hts⟩ (s11_fail l dC dI kB kI kJ kZ kC kS H.size m0 ra (upd x0 0 0) 1 ((fI_u hX (k := 0) ((iv_w (iv_k (by decide) (by decide) : iv 0 0 0) (by decide) (by decide)))))) (cwV 1 hts gX11_missing_X11_fail rfl rfl rfl (by decide +kernel) ⟨Nat.le_of_ble_eq_true rfl, Nat.le_of_ble_eq_true rfl⟩) ⟨fun a U g mk q => by obtain ⟨q0, q1, qP, qE, qD⟩ := q; exact ⟨q0, q1, qP, kE_call qE, qD⟩, va_recv hK hP (ci := 11) (q0 := 0) rfl rfl, fun U hU hW => ⟨rfl, by rw [hU], by rw [hU]; exact hPc, kE_warm hW hE, hDc.weaken (fun _ _ _ _ => trivial)⟩⟩ rfl rfl hl.1 rfl (lv_room (Nat.le_of_ble_eq_true rfl)) dX11_missing_35 ⟨Nat.le_of_ble_eq_true rfl, Nat.le_of_ble_eq_true rfl⟩) hS (fun q _ h => hFc q h) hFc (fun r5 u t H1 locs ht hvm w6 hB hz1 hk1 hS => ?_)
    obtain ⟨y7, hq8, hq9, hP1, hD1⟩ := hB
    rw [ht] at hP1
    try dsimp only at w6
    obtain ⟨hP, hD⟩ := va_join (wr := []) (w1 := [(m0, .inr (11, oX11 ra y7))]) hP hD [0] [] rfl rfl (by decide) (by decide) hk1 hFc hP1 hD1
    generalize H1 = H at hP hS ⊢
    have hP : va_P (dC, dI) vwCl [(m0, .inr (11, oX11 ra y7))] H := hP
    have hD : va_D A [(m0, .inr (11, oX11 ra y7))] := hD
    refine W.widen (k := 0) (n := 0) (Nat.le_of_ble_eq_true rfl) (Nat.le_of_ble_eq_true rfl) ?_
    obtain rfl : r5 = 0 := iv_one w6 (by decide)
    refine lv_i2l (v := 0) hx hb dX11_missing_38 (by decide) ?_
    have hP9 := hP.sub (ws' := [(m0, .inr (11, oX11 ra y7))]) [0] rfl
    have hD9 := hD.sub (ws' := [(m0, .inr (11, oX11 ra y7))]) [0] (by decide) rfl
    exact W.lret (v := 0) hx hb hr (fun t ht hW => ⟨⟨0, (), rfl, trivial, y7, hq8, (show y7 0 = 1 from hq9), by rw [ht]; exact hP9, hD9⟩, hS.F ht⟩) hS.2.2 dX11_missing_39
  · have b10 : iv 1 1 r1 := iv_neLo c3 w2.1 (iv_k (by decide) (by decide) : iv 0 0 0) (by decide) (by decide)
    have hr11 := (w2.2).resolve_left (iv_ne b10 (iv_k (by decide) (by decide) : iv 0 0 0) (by decide))
    have b12 : iv 61 60 p0 := iv_cap (in_iv hr11 (iv_k (by decide) (by decide) : iv 0 0 0) (iv_k (by decide) (by decide) : iv 60 60 60)) hp0 (by decide) (by decide)
    exact (iv_no b12 (by decide)).elim
def rm_s10_missing_mlo : Room := { frames := 6, cells := 1, slots := 6, locals := 82 }
set_option maxHeartbeats 4000000 in
set_option maxRecDepth 100000 in
theorem s10_missing_mlo (l : Launch) (hst : l.stackTraces = false) (dC : Nat → ClassId) (dI : Nat → Nat → Nat) (kB kI kJ kZ kC kS : ClassId) (sz : Nat) (op : Nat) (p0 : Int32) (p1 : Int32) (hp1 : iv (-2147483648) 0 p1) : vx_Met l yX10_missing wsX10_missing rm_s10_missing_mlo (va_Pc [.ref op, .int p0, .int p1] (fun U => U.heap.size = sz ∧ va_P (dC, dI) vwCl [] U.heap ∧ kE dC dI kB kI kJ kZ kC kS U ∧ va_D (fun _ => True) [] ∧ kX U ∧ kT (va_A [] sz) U)) (va_Ql (fun (r : Int64) (_ : Unit) => False) (fun _ t => va_P (dC, dI) vwCl [] t.heap ∧ va_D (va_A [] sz) []) (va_A [] sz)) (vx_X (fun (_ : Unit) => True) (fun (E : String) (_ : Unit) (t : State) => (E = "java/lang/IllegalArgumentException") ∧ va_P (dC, dI) vwCl [] t.heap ∧ va_D (va_A [] sz) []) (va_A [] sz)) 1 6 (va_A [] sz) := by
  refine vx_ofW (cc := cX10_missing) (maxL := 3) (ret := (some .long)) (by decide) rfl ?_
  intro p e s m args0 below meth c s₁ B hml hexT hv
  obtain ⟨hargs, hsz, hP, hE, hD0, hXs, hT⟩ := hv
  have hx := B.exec
  have hb := B.bytes
  have hr := B.returns
  have hts := atoms_spec (ws := wsX10_missing) B.pre
  have hown : s.vm.findClass RX10 = some m.cls := findClass_of_methodNamed B.named
  have hlocks := B.notSynchronized
  have hK := hE.1
  have hin10 : ∀ w ∈ wsX100, w ∈ wsX10_missing := fun _ h9 => List.mem_cons_of_mem _ (List.mem_append_left _ (List.mem_append_left _ (List.mem_append_right _ h9)))
  have hin4 : ∀ w ∈ wsX40, w ∈ wsX10_missing := fun _ h9 => List.mem_cons_of_mem _ (List.mem_append_left _ (List.mem_append_right _ h9))
  have hw_0 := hts (.classLink RX10 128 "java/lang/IllegalArgumentException") (List.mem_of_getElem? (i := 1) (by decide +kernel))
  have hw_1 := hts (.initialized "java/lang/IllegalArgumentException") (List.mem_of_getElem? (i := 2) (by decide +kernel))
  subst hsz
  have hD := hD0.self (sz := s.heap.size)
  generalize hAe : va_A [] s.heap.size = A at hD hT ⊢
  have hA : ∀ q : Nat, s.heap.size ≤ q → A q := fun q h => by rw [← hAe]; exact Or.inr h
  have hS : va_S A s.heap s.heap [] := va_S.rf
  have hP : va_P (dC, dI) vwCl [] s.heap := hP
  have hl := lv_entry ([.ref op, .int p0, .int p1]) (n := 3) (Nat.le_of_ble_eq_true rfl)
  have hla : entryFrame m args0 3 = entryFrame m ([.ref op, .int p0, .int p1] : List Value).toArray 3 := by rw [hargs]
  rw [hla, lg_entry_eq]
  generalize (lg_sl ([.ref op, .int p0, .int p1]) ++ List.replicate (3 - (lg_sl ([.ref op, .int p0, .int p1])).length) Slot.unset).toArray = ls at hl ⊢
  have hl : lv_has ls 3 [(0, .ref op), (1, .int p0), (2, .int p1)] := hl
  refine lv_iload_n hx hb dX10_missing_0 rfl (lv_at hl 1 rfl) ?_
  refine lv_if_lt (tgt := 20) hx hb dX10_missing_1 (by decide) (fun c1 => ?_) (fun c1 => ?_)
  · have b2 : iv (-2147483648) (-1) p0 := iv_ltL c1 (iv_t p0) (iv_k (by decide) (by decide) : iv 0 0 0) (by decide) (by decide)
    have hP9 := hP.sub (ws' := []) [] rfl
    have hD9 := hD.sub (ws' := []) [] (by decide) rfl
    obtain ⟨sa3, hstr⟩ := hXs.2.2.2.2.2.2.2.2.2.1
    exact vx_throwSW (names := ["java/lang/RuntimeException", "java/lang/Exception"]) hx hb hst hown (by decide +kernel) (by decide +kernel) hw_0 hw_1 hstr (vx_hat (L := vx_atS RX10 132 "java/lang/IllegalArgumentException" ["java/lang/RuntimeException", "java/lang/Exception"]) (B := [.castable "java/lang/IllegalArgumentException" "java/lang/IllegalArgumentException", .declares ⟨"java/lang/RuntimeException", "<init>", "(Ljava/lang/String;)V"⟩, .declares ⟨"java/lang/Exception", "<init>", "(Ljava/lang/String;)V"⟩, .declares ⟨"java/lang/Throwable", "<init>", "(Ljava/lang/String;)V"⟩]) (fun w hw => hts w ((by decide +kernel : ∀ w ∈ (vx_atS RX10 132 "java/lang/IllegalArgumentException" ["java/lang/RuntimeException", "java/lang/Exception"]).filter goodWord, w ∈ wsX10_missing) w hw)) (by decide +kernel) (vx_c (va_Nw.use rfl hXs.2.1) (vx_c (va_Nw.use rfl hXs.2.2.1) (vx_c (va_Nw.use rfl hXs.2.2.2.1) (vx_c (va_Nw.use rfl hXs.2.2.2.2.1) (vx_n)))))) (by decide +kernel) hT.1 hT.2 hS (by rw [hml]; exact hl.1) dX10_missing_20 dX10_missing_23 dX10_missing_24 dX10_missing_27 dX10_missing_30 (fun x h9 => (hexT x h9).elim) (Nat.le_of_ble_eq_true rfl) (Nat.le_of_ble_eq_true rfl) (Nat.le_of_ble_eq_true rfl) (Nat.le_of_ble_eq_true rfl) hlocks (fun t9 _ h8 h9 => ⟨(), trivial, ⟨rfl, hP9.kept (fun k q hk => h9 q.1 (hP9 k q hk).lt), hD9⟩, Nat.le_trans hS.1 h8, fun q h1 h2 => (h9 q (Nat.lt_of_lt_of_le h1 hS.1)).trans (hS.2.1 q h1 h2)⟩) hS.2.2 (Nat.le_of_ble_eq_true rfl) (Nat.le_of_ble_eq_true rfl)
  · have b4 : iv 0 2147483647 p0 := iv_leR (Int32.not_lt.mp c1) (iv_k (by decide) (by decide) : iv 0 0 0) (iv_t p0) (by decide) (by decide)
    refine lv_iload_n hx hb dX10_missing_4 rfl (lv_at hl 1 rfl) ?_
    refine lv_bipush (v := 60) hx hb dX10_missing_5 (by decide) ?_
    refine lv_icmp_gt (tgt := 20) hx hb dX10_missing_7 (by decide) (fun c5 => ?_) (fun c5 => ?_)
    · have b6 : iv 61 2147483647 p0 := iv_ltR c5 (iv_k (by decide) (by decide) : iv 60 60 60) b4 (by decide) (by decide)
      have hP9 := hP.sub (ws' := []) [] rfl
      have hD9 := hD.sub (ws' := []) [] (by decide) rfl
      obtain ⟨sa7, hstr⟩ := hXs.2.2.2.2.2.2.2.2.2.1
      exact vx_throwSW (names := ["java/lang/RuntimeException", "java/lang/Exception"]) hx hb hst hown (by decide +kernel) (by decide +kernel) hw_0 hw_1 hstr (vx_hat (L := vx_atS RX10 132 "java/lang/IllegalArgumentException" ["java/lang/RuntimeException", "java/lang/Exception"]) (B := [.castable "java/lang/IllegalArgumentException" "java/lang/IllegalArgumentException", .declares ⟨"java/lang/RuntimeException", "<init>", "(Ljava/lang/String;)V"⟩, .declares ⟨"java/lang/Exception", "<init>", "(Ljava/lang/String;)V"⟩, .declares ⟨"java/lang/Throwable", "<init>", "(Ljava/lang/String;)V"⟩]) (fun w hw => hts w ((by decide +kernel : ∀ w ∈ (vx_atS RX10 132 "java/lang/IllegalArgumentException" ["java/lang/RuntimeException", "java/lang/Exception"]).filter goodWord, w ∈ wsX10_missing) w hw)) (by decide +kernel) (vx_c (va_Nw.use rfl hXs.2.1) (vx_c (va_Nw.use rfl hXs.2.2.1) (vx_c (va_Nw.use rfl hXs.2.2.2.1) (vx_c (va_Nw.use rfl hXs.2.2.2.2.1) (vx_n)))))) (by decide +kernel) hT.1 hT.2 hS (by rw [hml]; exact hl.1) dX10_missing_20 dX10_missing_23 dX10_missing_24 dX10_missing_27 dX10_missing_30 (fun x h9 => (hexT x h9).elim) (Nat.le_of_ble_eq_true rfl) (Nat.le_of_ble_eq_true rfl) (Nat.le_of_ble_eq_true rfl) (Nat.le_of_ble_eq_true rfl) hlocks (fun t9 _ h8 h9 => ⟨(), trivial, ⟨rfl, hP9.kept (fun k q hk => h9 q.1 (hP9 k q hk).lt), hD9⟩, Nat.le_trans hS.1 h8, fun q h1 h2 => (h9 q (Nat.lt_of_lt_of_le h1 hS.1)).trans (hS.2.1 q h1 h2)⟩) hS.2.2 (Nat.le_of_ble_eq_true rfl) (Nat.le_of_ble_eq_true rfl)
    · have b8 : iv 0 60 p0 := iv_leL (Int32.not_lt.mp c5) b4 (iv_k (by decide) (by decide) : iv 60 60 60) (by decide) (by decide)
      refine lv_iload_n hx hb dX10_missing_10 rfl (lv_at hl 2 rfl) ?_
      refine lv_iconst (v := 1) hx hb dX10_missing_11 (by decide) ?_
      refine lv_icmp_lt (tgt := 20) hx hb dX10_missing_12 (by decide) (fun _ => ?_) (fun c9 => absurd (iv_lt hp1 (iv_k (by decide) (by decide) : iv 1 1 1) (by decide)) c9)
      have hP9 := hP.sub (ws' := []) [] rfl
      have hD9 := hD.sub (ws' := []) [] (by decide) rfl
      obtain ⟨sa9, hstr⟩ := hXs.2.2.2.2.2.2.2.2.2.1
      exact vx_throwSW (names := ["java/lang/RuntimeException", "java/lang/Exception"]) hx hb hst hown (by decide +kernel) (by decide +kernel) hw_0 hw_1 hstr (vx_hat (L := vx_atS RX10 132 "java/lang/IllegalArgumentException" ["java/lang/RuntimeException", "java/lang/Exception"]) (B := [.castable "java/lang/IllegalArgumentException" "java/lang/IllegalArgumentException", .declares ⟨"java/lang/RuntimeException", "<init>", "(Ljava/lang/String;)V"⟩, .declares ⟨"java/lang/Exception", "<init>", "(Ljava/lang/String;)V"⟩, .declares ⟨"java/lang/Throwable", "<init>", "(Ljava/lang/String;)V"⟩]) (fun w hw => hts w ((by decide +kernel : ∀ w ∈ (vx_atS RX10 132 "java/lang/IllegalArgumentException" ["java/lang/RuntimeException", "java/lang/Exception"]).filter goodWord, w ∈ wsX10_missing) w hw)) (by decide +kernel) (vx_c (va_Nw.use rfl hXs.2.1) (vx_c (va_Nw.use rfl hXs.2.2.1) (vx_c (va_Nw.use rfl hXs.2.2.2.1) (vx_c (va_Nw.use rfl hXs.2.2.2.2.1) (vx_n)))))) (by decide +kernel) hT.1 hT.2 hS (by rw [hml]; exact hl.1) dX10_missing_20 dX10_missing_23 dX10_missing_24 dX10_missing_27 dX10_missing_30 (fun x h9 => (hexT x h9).elim) (Nat.le_of_ble_eq_true rfl) (Nat.le_of_ble_eq_true rfl) (Nat.le_of_ble_eq_true rfl) (Nat.le_of_ble_eq_true rfl) hlocks (fun t9 _ h8 h9 => ⟨(), trivial, ⟨rfl, hP9.kept (fun k q hk => h9 q.1 (hP9 k q hk).lt), hD9⟩, Nat.le_trans hS.1 h8, fun q h1 h2 => (h9 q (Nat.lt_of_lt_of_le h1 hS.1)).trans (hS.2.1 q h1 h2)⟩) hS.2.2 (Nat.le_of_ble_eq_true rfl) (Nat.le_of_ble_eq_true rfl)
def rm_sL_missing_mlo : Room := { frames := 7, cells := 1, slots := 6, locals := 104 }
set_option maxHeartbeats 4000000 in
set_option maxRecDepth 100000 in
theorem sL_missing_mlo (l : Launch) (hst : l.stackTraces = false) (dC : Nat → ClassId) (dI : Nat → Nat → Nat) (kB kI kJ kZ kC kS : ClassId) (sz : Nat) (op : Nat) (ot : Nat) (on : Nat) (dn : Nat) (rd : Nat) (oc : Nat) (d : Nat) (o : Nat) (si : Nat) (w : Nat) (se : Nat) (nb : Nat) (hi : Nat) (p_status : Nat) (oe : Nat) (ih : Nat) (mb : Nat) (p_imageStatus : Nat) (x_p : Nat → Int32) (p0 : Int32) (p1 : Int32) (ou : Nat) (hp1 : iv (-2147483648) 0 p1) : Met l yL_missing wsL_missing rm_sL_missing_mlo (va_Pc [.ref op, .int p0, .int p1, .ref ou] (fun U => U.heap.size = sz ∧ va_P (dC, dI) vwCl [(op, .inr (10, oX10 ot on dn rd oc d o si w se nb hi p_status oe ih mb p_imageStatus x_p))] U.heap ∧ kE dC dI kB kI kJ kZ kC kS U ∧ va_D (fun _ => True) [(op, .inr (10, oX10 ot on dn rd oc d o si w se nb hi p_status oe ih mb p_imageStatus x_p))] ∧ kX U ∧ kT (va_A [(op, .inr (10, oX10 ot on dn rd oc d o si w se nb hi p_status oe ih mb p_imageStatus x_p))] sz) U)) (va_Qi (fun (r : Int32) (_ : Unit) => r = 1) (fun _ t => va_P (dC, dI) vwCl [(op, .inr (10, oX10 ot on dn rd oc d o si w se nb hi p_status oe ih mb p_imageStatus x_p))] t.heap ∧ va_D (va_A [(op, .inr (10, oX10 ot on dn rd oc d o si w se nb hi p_status oe ih mb p_imageStatus x_p))] sz) [(op, .inr (10, oX10 ot on dn rd oc d o si w se nb hi p_status oe ih mb p_imageStatus x_p))]) (va_A [(op, .inr (10, oX10 ot on dn rd oc d o si w se nb hi p_status oe ih mb p_imageStatus x_p))] sz)) 1 6 (va_A [(op, .inr (10, oX10 ot on dn rd oc d o si w se nb hi p_status oe ih mb p_imageStatus x_p))] sz) := by
  refine va_MetW (cc := cL_missing) (maxL := 5) (ret := (some .int)) (by decide) rfl ?_
  intro p e s m args0 below meth c s₁ B hml hv
  obtain ⟨hargs, hsz, hP, hE, hD0, hXs, hT⟩ := hv
  have hx := B.exec
  have hb := B.bytes
  have hr := B.returns
  have hts := atoms_spec (ws := wsL_missing) B.pre
  have hown : s.vm.findClass RL = some m.cls := findClass_of_methodNamed B.named
  have hlocks := B.notSynchronized
  have hK := hE.1
  have hin10 : ∀ w ∈ wsX100, w ∈ wsL_missing := fun _ h9 => List.mem_cons_of_mem _ (List.mem_append_left _ (List.mem_append_left _ (List.mem_append_right _ h9)))
  have hin4 : ∀ w ∈ wsX40, w ∈ wsL_missing := fun _ h9 => List.mem_cons_of_mem _ (List.mem_append_left _ (List.mem_append_right _ h9))
  have hw_0 := hts (.classLink RL 13 "java/lang/IllegalArgumentException") (List.mem_of_getElem? (i := 1) (by decide +kernel))
  subst hsz
  have hD := hD0.self (sz := s.heap.size)
  generalize hAe : va_A [(op, .inr (10, oX10 ot on dn rd oc d o si w se nb hi p_status oe ih mb p_imageStatus x_p))] s.heap.size = A at hD hT ⊢
  have hA : ∀ q : Nat, s.heap.size ≤ q → A q := fun q h => by rw [← hAe]; exact Or.inr h
  have hS : va_S A s.heap s.heap [] := va_S.rf
  have hP : va_P (dC, dI) vwCl [(op, .inr (10, oX10 ot on dn rd oc d o si w se nb hi p_status oe ih mb p_imageStatus x_p))] s.heap := hP
  have hl := lv_entry ([.ref op, .int p0, .int p1, .ref ou]) (n := 5) (Nat.le_of_ble_eq_true rfl)
  have hla : entryFrame m args0 5 = entryFrame m ([.ref op, .int p0, .int p1, .ref ou] : List Value).toArray 5 := by rw [hargs]
  rw [hla, lg_entry_eq]
  generalize (lg_sl ([.ref op, .int p0, .int p1, .ref ou]) ++ List.replicate (5 - (lg_sl ([.ref op, .int p0, .int p1, .ref ou])).length) Slot.unset).toArray = ls at hl ⊢
  have hl : lv_has ls 5 [(0, .ref op), (1, .int p0), (2, .int p1), (3, .ref ou)] := hl
  refine lv_aload_n hx hb dL_missing_0 rfl (lv_at hl 3 rfl) ?_
  refine lv_iconst (v := 0) hx hb dL_missing_1 (by decide) ?_
  refine lv_aload_n hx hb dL_missing_2 rfl (lv_at hl 0 rfl) ?_
  refine lv_iload_n hx hb dL_missing_3 rfl (lv_at hl 1 rfl) ?_
  refine lv_iload_n hx hb dL_missing_4 rfl (lv_at hl 2 rfl) ?_
  have hPc := hP.sub (ws' := []) [] rfl
  have hDc := hD.sub (ws' := []) [] (by decide) rfl
  have hFc := va_free (wc := []) hD hS hA [] rfl
  refine vx_calll (vx_runV (As := [.int p0, .int p1]) (rest := [.int 0, .ref ou]) ⟨hx, hb, hml, hown, hts⟩ (s10_missing_mlo l hst dC dI kB kI kJ kZ kC kS s.heap.size op p0 p1 (hp1)) (cwV 2 hts gL_missing_X10_missing rfl rfl rfl (by decide +kernel) ⟨Nat.le_of_ble_eq_true rfl, Nat.le_of_ble_eq_true rfl⟩) ⟨fun a U g mk q => by obtain ⟨q0, q1, qP, qE, qD, qX, qT⟩ := q; exact ⟨q0, q1, qP, kE_call qE, qD, kX_call qX, kT_call qT⟩, va_recv hK hP (ci := 10) (q0 := 0) rfl rfl, fun U hU hW => ⟨rfl, by rw [hU], by rw [hU]; exact hPc, kE_warm hW hE, hDc.weaken (fun _ _ _ _ => trivial), kX_warm hW hXs, kT_at hT hS hFc hW hU⟩⟩ rfl rfl hl.1 rfl (lv_room (Nat.le_of_ble_eq_true rfl)) dL_missing_5 ⟨Nat.le_of_ble_eq_true rfl, Nat.le_of_ble_eq_true rfl⟩) hS (fun q _ h => hFc q h) hFc (fun q _ h => hFc q h) (fun E ce q9 u t H1 locs ht hvm hpx hBX hz1 hk1 hS hc9 hv9 hcl9 => ?_) (fun r1 u t H1 locs ht hvm w2 hB hz1 hk1 hS => ?_)
  · obtain ⟨hE9, hP1, hD1⟩ := hBX
    rw [ht] at hP1
    obtain ⟨hP, hD⟩ := va_join (wr := [(op, .inr (10, oX10 ot on dn rd oc d o si w se nb hi p_status oe ih mb p_imageStatus x_p))]) (w1 := []) hP hD [] [0] rfl rfl (by decide) (by decide) hk1 hFc hP1 hD1
    generalize H1 = H at hP hS hc9 ⊢
    have hP : va_P (dC, dI) vwCl [(op, .inr (10, oX10 ot on dn rd oc d o si w se nb hi p_status oe ih mb p_imageStatus x_p))] H := hP
    have hD : va_D A [(op, .inr (10, oX10 ot on dn rd oc d o si w se nb hi p_status oe ih mb p_imageStatus x_p))] := hD
    subst hE9
    have htab := vx_table (x := yL_missing) B (hts (.codeWith yL_missing cL_missing 5 (some .int) [(0, 9, 12, 13)]) (List.mem_of_getElem? (i := 0) (by decide +kernel)))
    refine vx_catch (name := "java/lang/IllegalArgumentException") hown [] ⟨0, 9, 12, 13⟩ [] (htab.trans rfl) (fun z h => absurd h List.not_mem_nil) rfl (by decide) hw_0 (va_Nw.use rfl hXs.2.1) hc9 hv9 hcl9 ?_
    refine W.widen (k := 1) (n := 6) (Nat.le_of_ble_eq_true rfl) (Nat.le_of_ble_eq_true rfl) ?_
    refine W.eq (g2 := F0 m 12 ls [.ref q9]) rfl ?_
    refine lv_astore (lv' := [(4, .ref q9), (0, .ref op), (1, .int p0), (2, .int p1), (3, .ref ou)]) hx hb dL_missing_12 hl (by decide) rfl (fun ls hl => ?_)
    refine lv_iconst (v := 1) hx hb dL_missing_14 (by decide) ?_
    have hP9 := hP.sub (ws' := [(op, .inr (10, oX10 ot on dn rd oc d o si w se nb hi p_status oe ih mb p_imageStatus x_p))]) [0] rfl
    have hD9 := hD.sub (ws' := [(op, .inr (10, oX10 ot on dn rd oc d o si w se nb hi p_status oe ih mb p_imageStatus x_p))]) [0] (by decide) rfl
    exact W.iret (v := 1) hx hb hr (fun t ht hW => ⟨⟨1, (), rfl, rfl, by rw [ht]; exact hP9, hD9⟩, hS.F ht⟩) hS.2.2 dL_missing_15
  · exact w2.elim
def rm_s11_missing_mlo : Room := { frames := 1, cells := 0, slots := 0, locals := 22 }
set_option maxHeartbeats 4000000 in
set_option maxRecDepth 100000 in
theorem s11_missing_mlo (l : Launch) (dC : Nat → ClassId) (dI : Nat → Nat → Nat) (kB kI kJ kZ kC kS : ClassId) (sz : Nat) (m0 : Nat) (ra : Nat → Nat) (x0 : Nat → Int32) (p0 : Int32) (p1 : Int32) (hX : fI lX11 hX11 x0) (hp1 : iv (-2147483648) 0 p1) : Met l yX11_missing wsX11_missing rm_s11_missing_mlo (va_Pc [.ref m0, .int p0, .int p1] (fun U => U.heap.size = sz ∧ va_P (dC, dI) vwCl [(m0, .inr (11, oX11 ra x0))] U.heap ∧ kE dC dI kB kI kJ kZ kC kS U ∧ va_D (fun _ => True) [(m0, .inr (11, oX11 ra x0))])) (va_Ql (fun (r : Int64) (_ : Unit) => True) (fun _ t => ∃ (x0' : Nat → Int32), fI lX11 hX11 x0' ∧ (x0' 0 = 1) ∧ va_P (dC, dI) vwCl [(m0, .inr (11, oX11 ra x0'))] t.heap ∧ va_D (va_A [(m0, .inr (11, oX11 ra x0))] sz) [(m0, .inr (11, oX11 ra x0'))]) (va_A [(m0, .inr (11, oX11 ra x0))] sz)) 0 0 (va_A [(m0, .inr (11, oX11 ra x0))] sz) := by
  refine Met.ofW (cc := cX11_missing) (maxL := 3) (ret := (some .long)) (by decide) rfl ?_
  intro p e s m args0 below meth c s₁ B hml hv
  obtain ⟨hargs, hsz, hP, hE, hD0⟩ := hv
  have hx := B.exec
  have hb := B.bytes
  have hr := B.returns
  have hts := atoms_spec (ws := wsX11_missing) B.pre
  have hown : s.vm.findClass RX11 = some m.cls := findClass_of_methodNamed B.named
  have hlocks := B.notSynchronized
  have hK := hE.1
  have hin11 : ∀ w ∈ wsX110, w ∈ wsX11_missing := fun _ h9 => List.mem_cons_of_mem _ (List.mem_append_right _ h9)
  have hw_0 := hts (.fieldLink RX11 142 "PathProberModel" "code" "I") (List.mem_of_getElem? (i := 1) (by decide +kernel))
  subst hsz
  have hD := hD0.self (sz := s.heap.size)
  generalize hAe : va_A [(m0, .inr (11, oX11 ra x0))] s.heap.size = A at hD ⊢
  have hA : ∀ q : Nat, s.heap.size ≤ q → A q := fun q h => by rw [← hAe]; exact Or.inr h
  have hS : va_S A s.heap s.heap [] := va_S.rf
  have hP : va_P (dC, dI) vwCl [(m0, .inr (11, oX11 ra x0))] s.heap := hP
  have hl := lv_entry ([.ref m0, .int p0, .int p1]) (n := 3) (Nat.le_of_ble_eq_true rfl)
  have hla : entryFrame m args0 3 = entryFrame m ([.ref m0, .int p0, .int p1] : List Value).toArray 3 := by rw [hargs]
  rw [hla, lg_entry_eq]
  generalize (lg_sl ([.ref m0, .int p0, .int p1]) ++ List.replicate (3 - (lg_sl ([.ref m0, .int p0, .int p1])).length) Slot.unset).toArray = ls at hl ⊢
  have hl : lv_has ls 3 [(0, .ref m0), (1, .int p0), (2, .int p1)] := hl
  refine lv_aload_n hx hb dX11_missing_0 rfl (lv_at hl 0 rfl) ?_
  refine lv_iconst (v := 0) hx hb dX11_missing_1 (by decide) ?_
  refine va_put (D := (dC, dI)) (ci := 11) (v := .int 0) (ty := .int) (C := RX11) (T := TX11) (N := 61) hx hb hts hin11 tyX11 tyX11_ok nmX11 hown hK hP hD hS 0 rfl rfl 2 (by decide) hw_0 (fun _ h9 => h9) rfl (by decide +kernel) rfl rfl (Nat.le_of_ble_eq_true rfl) dX11_missing_2 (fun H locs hP hD hS => ?_)
  have hP : va_P (dC, dI) vwCl [(m0, .inr (11, oX11 ra (upd x0 0 0)))] H := hP
  have hD : va_D A [(m0, .inr (11, oX11 ra (upd x0 0 0)))] := hD
  refine lv_iload_n hx hb dX11_missing_5 rfl (lv_at hl 1 rfl) ?_
  refine lv_iconst (v := 0) hx hb dX11_missing_6 (by decide) ?_
  refine lv_bipush (v := 60) hx hb dX11_missing_7 (by decide) ?_
  have hPc := hP.sub (ws' := []) [] rfl
  have hDc := hD.sub (ws' := []) [] (by decide) rfl
  have hFc := va_free (wc := []) hD hS hA [] rfl
  refine va_calli (va_runS (As := [.int p0, .int 0, .int 60]) (rest := []) ⟨hx, hb, hml, hown, hts⟩ (s11_isIn l dC dI kB kI kJ kZ kC kS H.size p0 0 60) (va_cwS 3 hts gX11_missing_X11_isIn rfl rfl rfl (by decide +kernel) ⟨Nat.le_of_ble_eq_true rfl, Nat.le_of_ble_eq_true rfl⟩) ⟨fun a U g mk q => by obtain ⟨q0, q1, qP, qE, qD⟩ := q; exact ⟨q0, q1, qP, kE_call qE, qD⟩, fun U hU hW => ⟨rfl, by rw [hU], by rw [hU]; exact hPc, kE_warm hW hE, hDc.weaken (fun _ _ _ _ => trivial)⟩⟩ rfl rfl hl.1 rfl (lv_room (Nat.le_of_ble_eq_true rfl)) dX11_missing_9 ⟨Nat.le_of_ble_eq_true rfl, Nat.le_of_ble_eq_true rfl⟩) hS (fun q _ h => hFc q h) hFc (fun r1 u t H1 locs ht hvm w2 hB hz1 hk1 hS => ?_)
  obtain ⟨hP1, hD1⟩ := hB
  rw [ht] at hP1
  try dsimp only at w2
  obtain ⟨hP, hD⟩ := va_join (wr := [(m0, .inr (11, oX11 ra (upd x0 0 0)))]) (w1 := []) hP hD [] [0] rfl rfl (by decide) (by decide) hk1 hFc hP1 hD1
  generalize H1 = H at hP hS ⊢
  have hP : va_P (dC, dI) vwCl [(m0, .inr (11, oX11 ra (upd x0 0 0)))] H := hP
  have hD : va_D A [(m0, .inr (11, oX11 ra (upd x0 0 0)))] := hD
  refine W.widen (k := 0) (n := 0) (Nat.le_of_ble_eq_true rfl) (Nat.le_of_ble_eq_true rfl) ?_
  refine lv_if_eq (tgt := 33) hx hb dX11_missing_12 (by decide) (fun c3 => ?_) (fun c3 => ?_)
  · have b4 : iv 0 0 r1 := iv_eqL c3 (iv_k (by decide) (by decide) : iv 0 0 0)
    refine lv_aload_n hx hb dX11_missing_33 rfl (lv_at hl 0 rfl) ?_
    refine lv_iconst (v := 1) hx hb dX11_missing_34 (by decide) ?_
    have hPc := hP.sub (ws' := [(m0, .inr (11, oX11 ra (upd x0 0 0)))]) [0] rfl
    have hDc := hD.sub (ws' := [(m0, .inr (11, oX11 ra (upd x0 0 0)))]) [0] (by decide) rfl
    have hFc := va_free (wc := [(m0, .inr (11, oX11 ra (upd x0 0 0)))]) hD hS hA [0] rfl
    refine va_calli (va_runV (As := [.int 1]) (rest := []) ⟨hx, hb, hml, hown, hts⟩ (s11_fail l dC dI kB kI kJ kZ kC kS H.size m0 ra (upd x0 0 0) 1 ((fI_u hX (k := 0) ((iv_w (iv_k (by decide) (by decide) : iv 0 0 0) (by decide) (by decide)))))) (cwV 1 hts gX11_missing_X11_fail rfl rfl rfl (by decide +kernel) ⟨Nat.le_of_ble_eq_true rfl, Nat.le_of_ble_eq_true rfl⟩) ⟨fun a U g mk q => by obtain ⟨q0, q1, qP, qE, qD⟩ := q; exact ⟨q0, q1, qP, kE_call qE, qD⟩, va_recv hK hP (ci := 11) (q0 := 0) rfl rfl, fun U hU hW => ⟨rfl, by rw [hU], by rw [hU]; exact hPc, kE_warm hW hE, hDc.weaken (fun _ _ _ _ => trivial)⟩⟩ rfl rfl hl.1 rfl (lv_room (Nat.le_of_ble_eq_true rfl)) dX11_missing_35 ⟨Nat.le_of_ble_eq_true rfl, Nat.le_of_ble_eq_true rfl⟩) hS (fun q _ h => hFc q h) hFc (fun r5 u t H1 locs ht hvm w6 hB hz1 hk1 hS => ?_)
    obtain ⟨y7, hq8, hq9, hP1, hD1⟩ := hB
    rw [ht] at hP1
    try dsimp only at w6
    obtain ⟨hP, hD⟩ := va_join (wr := []) (w1 := [(m0, .inr (11, oX11 ra y7))]) hP hD [0] [] rfl rfl (by decide) (by decide) hk1 hFc hP1 hD1
    generalize H1 = H at hP hS ⊢
    have hP : va_P (dC, dI) vwCl [(m0, .inr (11, oX11 ra y7))] H := hP
    have hD : va_D A [(m0, .inr (11, oX11 ra y7))] := hD
    refine W.widen (k := 0) (n := 0) (Nat.le_of_ble_eq_true rfl) (Nat.le_of_ble_eq_true rfl) ?_
    obtain rfl : r5 = 0 := iv_one w6 (by decide)
    refine lv_i2l (v := 0) hx hb dX11_missing_38 (by decide) ?_
    have hP9 := hP.sub (ws' := [(m0, .inr (11, oX11 ra y7))]) [0] rfl
    have hD9 := hD.sub (ws' := [(m0, .inr (11, oX11 ra y7))]) [0] (by decide) rfl
    exact W.lret (v := 0) hx hb hr (fun t ht hW => ⟨⟨0, (), rfl, trivial, y7, hq8, (show y7 0 = 1 from hq9), by rw [ht]; exact hP9, hD9⟩, hS.F ht⟩) hS.2.2 dX11_missing_39
  · have b10 : iv 1 1 r1 := iv_neLo c3 w2.1 (iv_k (by decide) (by decide) : iv 0 0 0) (by decide) (by decide)
    have hr11 := (w2.2).resolve_left (iv_ne b10 (iv_k (by decide) (by decide) : iv 0 0 0) (by decide))
    have b12 : iv 0 60 p0 := iv_cap (in_iv hr11 (iv_k (by decide) (by decide) : iv 0 0 0) (iv_k (by decide) (by decide) : iv 60 60 60)) (iv_t p0) (by decide) (by decide)
    refine lv_iload_n hx hb dX11_missing_15 rfl (lv_at hl 2 rfl) ?_
    refine lv_iconst (v := 1) hx hb dX11_missing_16 (by decide) ?_
    refine lv_iconst (v := 5) hx hb dX11_missing_17 (by decide) ?_
    have hPc := hP.sub (ws' := []) [] rfl
    have hDc := hD.sub (ws' := []) [] (by decide) rfl
    have hFc := va_free (wc := []) hD hS hA [] rfl
    refine va_calli (va_runS (As := [.int p1, .int 1, .int 5]) (rest := []) ⟨hx, hb, hml, hown, hts⟩ (s11_isIn l dC dI kB kI kJ kZ kC kS H.size p1 1 5) (va_cwS 3 hts gX11_missing_X11_isIn rfl rfl rfl (by decide +kernel) ⟨Nat.le_of_ble_eq_true rfl, Nat.le_of_ble_eq_true rfl⟩) ⟨fun a U g mk q => by obtain ⟨q0, q1, qP, qE, qD⟩ := q; exact ⟨q0, q1, qP, kE_call qE, qD⟩, fun U hU hW => ⟨rfl, by rw [hU], by rw [hU]; exact hPc, kE_warm hW hE, hDc.weaken (fun _ _ _ _ => trivial)⟩⟩ rfl rfl hl.1 rfl (lv_room (Nat.le_of_ble_eq_true rfl)) dX11_missing_18 ⟨Nat.le_of_ble_eq_true rfl, Nat.le_of_ble_eq_true rfl⟩) hS (fun q _ h => hFc q h) hFc (fun r13 u t H1 locs ht hvm w14 hB hz1 hk1 hS => ?_)
    obtain ⟨hP1, hD1⟩ := hB
    rw [ht] at hP1
    try dsimp only at w14
    obtain ⟨hP, hD⟩ := va_join (wr := [(m0, .inr (11, oX11 ra (upd x0 0 0)))]) (w1 := []) hP hD [] [0] rfl rfl (by decide) (by decide) hk1 hFc hP1 hD1
    generalize H1 = H at hP hS ⊢
    have hP : va_P (dC, dI) vwCl [(m0, .inr (11, oX11 ra (upd x0 0 0)))] H := hP
    have hD : va_D A [(m0, .inr (11, oX11 ra (upd x0 0 0)))] := hD
    refine W.widen (k := 0) (n := 0) (Nat.le_of_ble_eq_true rfl) (Nat.le_of_ble_eq_true rfl) ?_
    refine lv_if_eq (tgt := 33) hx hb dX11_missing_21 (by decide) (fun c15 => ?_) (fun c15 => ?_)
    · have b16 : iv 0 0 r13 := iv_eqL c15 (iv_k (by decide) (by decide) : iv 0 0 0)
      refine lv_aload_n hx hb dX11_missing_33 rfl (lv_at hl 0 rfl) ?_
      refine lv_iconst (v := 1) hx hb dX11_missing_34 (by decide) ?_
      have hPc := hP.sub (ws' := [(m0, .inr (11, oX11 ra (upd x0 0 0)))]) [0] rfl
      have hDc := hD.sub (ws' := [(m0, .inr (11, oX11 ra (upd x0 0 0)))]) [0] (by decide) rfl
      have hFc := va_free (wc := [(m0, .inr (11, oX11 ra (upd x0 0 0)))]) hD hS hA [0] rfl
      refine va_calli (va_runV (As := [.int 1]) (rest := []) ⟨hx, hb, hml, hown, hts⟩ (s11_fail l dC dI kB kI kJ kZ kC kS H.size m0 ra (upd x0 0 0) 1 ((fI_u hX (k := 0) ((iv_w (iv_k (by decide) (by decide) : iv 0 0 0) (by decide) (by decide)))))) (cwV 1 hts gX11_missing_X11_fail rfl rfl rfl (by decide +kernel) ⟨Nat.le_of_ble_eq_true rfl, Nat.le_of_ble_eq_true rfl⟩) ⟨fun a U g mk q => by obtain ⟨q0, q1, qP, qE, qD⟩ := q; exact ⟨q0, q1, qP, kE_call qE, qD⟩, va_recv hK hP (ci := 11) (q0 := 0) rfl rfl, fun U hU hW => ⟨rfl, by rw [hU], by rw [hU]; exact hPc, kE_warm hW hE, hDc.weaken (fun _ _ _ _ => trivial)⟩⟩ rfl rfl hl.1 rfl (lv_room (Nat.le_of_ble_eq_true rfl)) dX11_missing_35 ⟨Nat.le_of_ble_eq_true rfl, Nat.le_of_ble_eq_true rfl⟩) hS (fun q _ h => hFc q h) hFc (fun r17 u t H1 locs ht hvm w18 hB hz1 hk1 hS => ?_)
      obtain ⟨y19, hq20, hq21, hP1, hD1⟩ := hB
      rw [ht] at hP1
      try dsimp only at w18
      obtain ⟨hP, hD⟩ := va_join (wr := []) (w1 := [(m0, .inr (11, oX11 ra y19))]) hP hD [0] [] rfl rfl (by decide) (by decide) hk1 hFc hP1 hD1
      generalize H1 = H at hP hS ⊢
      have hP : va_P (dC, dI) vwCl [(m0, .inr (11, oX11 ra y19))] H := hP
      have hD : va_D A [(m0, .inr (11, oX11 ra y19))] := hD
      refine W.widen (k := 0) (n := 0) (Nat.le_of_ble_eq_true rfl) (Nat.le_of_ble_eq_true rfl) ?_
      obtain rfl : r17 = 0 := iv_one w18 (by decide)
      refine lv_i2l (v := 0) hx hb dX11_missing_38 (by decide) ?_
      have hP9 := hP.sub (ws' := [(m0, .inr (11, oX11 ra y19))]) [0] rfl
      have hD9 := hD.sub (ws' := [(m0, .inr (11, oX11 ra y19))]) [0] (by decide) rfl
      exact W.lret (v := 0) hx hb hr (fun t ht hW => ⟨⟨0, (), rfl, trivial, y19, hq20, (show y19 0 = 1 from hq21), by rw [ht]; exact hP9, hD9⟩, hS.F ht⟩) hS.2.2 dX11_missing_39
    · have b22 : iv 1 1 r13 := iv_neLo c15 w14.1 (iv_k (by decide) (by decide) : iv 0 0 0) (by decide) (by decide)
      have hr23 := (w14.2).resolve_left (iv_ne b22 (iv_k (by decide) (by decide) : iv 0 0 0) (by decide))
      have b24 : iv 1 0 p1 := iv_cap (in_iv hr23 (iv_k (by decide) (by decide) : iv 1 1 1) (iv_k (by decide) (by decide) : iv 5 5 5)) hp1 (by decide) (by decide)
      exact (iv_no b24 (by decide)).elim
def rm_s10_missing_mhi : Room := { frames := 6, cells := 1, slots := 6, locals := 82 }
set_option maxHeartbeats 4000000 in
set_option maxRecDepth 100000 in
theorem s10_missing_mhi (l : Launch) (hst : l.stackTraces = false) (dC : Nat → ClassId) (dI : Nat → Nat → Nat) (kB kI kJ kZ kC kS : ClassId) (sz : Nat) (op : Nat) (p0 : Int32) (p1 : Int32) (hp1 : iv 6 2147483647 p1) : vx_Met l yX10_missing wsX10_missing rm_s10_missing_mhi (va_Pc [.ref op, .int p0, .int p1] (fun U => U.heap.size = sz ∧ va_P (dC, dI) vwCl [] U.heap ∧ kE dC dI kB kI kJ kZ kC kS U ∧ va_D (fun _ => True) [] ∧ kX U ∧ kT (va_A [] sz) U)) (va_Ql (fun (r : Int64) (_ : Unit) => False) (fun _ t => va_P (dC, dI) vwCl [] t.heap ∧ va_D (va_A [] sz) []) (va_A [] sz)) (vx_X (fun (_ : Unit) => True) (fun (E : String) (_ : Unit) (t : State) => (E = "java/lang/IllegalArgumentException") ∧ va_P (dC, dI) vwCl [] t.heap ∧ va_D (va_A [] sz) []) (va_A [] sz)) 1 6 (va_A [] sz) := by
  refine vx_ofW (cc := cX10_missing) (maxL := 3) (ret := (some .long)) (by decide) rfl ?_
  intro p e s m args0 below meth c s₁ B hml hexT hv
  obtain ⟨hargs, hsz, hP, hE, hD0, hXs, hT⟩ := hv
  have hx := B.exec
  have hb := B.bytes
  have hr := B.returns
  have hts := atoms_spec (ws := wsX10_missing) B.pre
  have hown : s.vm.findClass RX10 = some m.cls := findClass_of_methodNamed B.named
  have hlocks := B.notSynchronized
  have hK := hE.1
  have hin10 : ∀ w ∈ wsX100, w ∈ wsX10_missing := fun _ h9 => List.mem_cons_of_mem _ (List.mem_append_left _ (List.mem_append_left _ (List.mem_append_right _ h9)))
  have hin4 : ∀ w ∈ wsX40, w ∈ wsX10_missing := fun _ h9 => List.mem_cons_of_mem _ (List.mem_append_left _ (List.mem_append_right _ h9))
  have hw_0 := hts (.classLink RX10 128 "java/lang/IllegalArgumentException") (List.mem_of_getElem? (i := 1) (by decide +kernel))
  have hw_1 := hts (.initialized "java/lang/IllegalArgumentException") (List.mem_of_getElem? (i := 2) (by decide +kernel))
  subst hsz
  have hD := hD0.self (sz := s.heap.size)
  generalize hAe : va_A [] s.heap.size = A at hD hT ⊢
  have hA : ∀ q : Nat, s.heap.size ≤ q → A q := fun q h => by rw [← hAe]; exact Or.inr h
  have hS : va_S A s.heap s.heap [] := va_S.rf
  have hP : va_P (dC, dI) vwCl [] s.heap := hP
  have hl := lv_entry ([.ref op, .int p0, .int p1]) (n := 3) (Nat.le_of_ble_eq_true rfl)
  have hla : entryFrame m args0 3 = entryFrame m ([.ref op, .int p0, .int p1] : List Value).toArray 3 := by rw [hargs]
  rw [hla, lg_entry_eq]
  generalize (lg_sl ([.ref op, .int p0, .int p1]) ++ List.replicate (3 - (lg_sl ([.ref op, .int p0, .int p1])).length) Slot.unset).toArray = ls at hl ⊢
  have hl : lv_has ls 3 [(0, .ref op), (1, .int p0), (2, .int p1)] := hl
  refine lv_iload_n hx hb dX10_missing_0 rfl (lv_at hl 1 rfl) ?_
  refine lv_if_lt (tgt := 20) hx hb dX10_missing_1 (by decide) (fun c1 => ?_) (fun c1 => ?_)
  · have b2 : iv (-2147483648) (-1) p0 := iv_ltL c1 (iv_t p0) (iv_k (by decide) (by decide) : iv 0 0 0) (by decide) (by decide)
    have hP9 := hP.sub (ws' := []) [] rfl
    have hD9 := hD.sub (ws' := []) [] (by decide) rfl
    obtain ⟨sa3, hstr⟩ := hXs.2.2.2.2.2.2.2.2.2.1
    exact vx_throwSW (names := ["java/lang/RuntimeException", "java/lang/Exception"]) hx hb hst hown (by decide +kernel) (by decide +kernel) hw_0 hw_1 hstr (vx_hat (L := vx_atS RX10 132 "java/lang/IllegalArgumentException" ["java/lang/RuntimeException", "java/lang/Exception"]) (B := [.castable "java/lang/IllegalArgumentException" "java/lang/IllegalArgumentException", .declares ⟨"java/lang/RuntimeException", "<init>", "(Ljava/lang/String;)V"⟩, .declares ⟨"java/lang/Exception", "<init>", "(Ljava/lang/String;)V"⟩, .declares ⟨"java/lang/Throwable", "<init>", "(Ljava/lang/String;)V"⟩]) (fun w hw => hts w ((by decide +kernel : ∀ w ∈ (vx_atS RX10 132 "java/lang/IllegalArgumentException" ["java/lang/RuntimeException", "java/lang/Exception"]).filter goodWord, w ∈ wsX10_missing) w hw)) (by decide +kernel) (vx_c (va_Nw.use rfl hXs.2.1) (vx_c (va_Nw.use rfl hXs.2.2.1) (vx_c (va_Nw.use rfl hXs.2.2.2.1) (vx_c (va_Nw.use rfl hXs.2.2.2.2.1) (vx_n)))))) (by decide +kernel) hT.1 hT.2 hS (by rw [hml]; exact hl.1) dX10_missing_20 dX10_missing_23 dX10_missing_24 dX10_missing_27 dX10_missing_30 (fun x h9 => (hexT x h9).elim) (Nat.le_of_ble_eq_true rfl) (Nat.le_of_ble_eq_true rfl) (Nat.le_of_ble_eq_true rfl) (Nat.le_of_ble_eq_true rfl) hlocks (fun t9 _ h8 h9 => ⟨(), trivial, ⟨rfl, hP9.kept (fun k q hk => h9 q.1 (hP9 k q hk).lt), hD9⟩, Nat.le_trans hS.1 h8, fun q h1 h2 => (h9 q (Nat.lt_of_lt_of_le h1 hS.1)).trans (hS.2.1 q h1 h2)⟩) hS.2.2 (Nat.le_of_ble_eq_true rfl) (Nat.le_of_ble_eq_true rfl)
  · have b4 : iv 0 2147483647 p0 := iv_leR (Int32.not_lt.mp c1) (iv_k (by decide) (by decide) : iv 0 0 0) (iv_t p0) (by decide) (by decide)
    refine lv_iload_n hx hb dX10_missing_4 rfl (lv_at hl 1 rfl) ?_
    refine lv_bipush (v := 60) hx hb dX10_missing_5 (by decide) ?_
    refine lv_icmp_gt (tgt := 20) hx hb dX10_missing_7 (by decide) (fun c5 => ?_) (fun c5 => ?_)
    · have b6 : iv 61 2147483647 p0 := iv_ltR c5 (iv_k (by decide) (by decide) : iv 60 60 60) b4 (by decide) (by decide)
      have hP9 := hP.sub (ws' := []) [] rfl
      have hD9 := hD.sub (ws' := []) [] (by decide) rfl
      obtain ⟨sa7, hstr⟩ := hXs.2.2.2.2.2.2.2.2.2.1
      exact vx_throwSW (names := ["java/lang/RuntimeException", "java/lang/Exception"]) hx hb hst hown (by decide +kernel) (by decide +kernel) hw_0 hw_1 hstr (vx_hat (L := vx_atS RX10 132 "java/lang/IllegalArgumentException" ["java/lang/RuntimeException", "java/lang/Exception"]) (B := [.castable "java/lang/IllegalArgumentException" "java/lang/IllegalArgumentException", .declares ⟨"java/lang/RuntimeException", "<init>", "(Ljava/lang/String;)V"⟩, .declares ⟨"java/lang/Exception", "<init>", "(Ljava/lang/String;)V"⟩, .declares ⟨"java/lang/Throwable", "<init>", "(Ljava/lang/String;)V"⟩]) (fun w hw => hts w ((by decide +kernel : ∀ w ∈ (vx_atS RX10 132 "java/lang/IllegalArgumentException" ["java/lang/RuntimeException", "java/lang/Exception"]).filter goodWord, w ∈ wsX10_missing) w hw)) (by decide +kernel) (vx_c (va_Nw.use rfl hXs.2.1) (vx_c (va_Nw.use rfl hXs.2.2.1) (vx_c (va_Nw.use rfl hXs.2.2.2.1) (vx_c (va_Nw.use rfl hXs.2.2.2.2.1) (vx_n)))))) (by decide +kernel) hT.1 hT.2 hS (by rw [hml]; exact hl.1) dX10_missing_20 dX10_missing_23 dX10_missing_24 dX10_missing_27 dX10_missing_30 (fun x h9 => (hexT x h9).elim) (Nat.le_of_ble_eq_true rfl) (Nat.le_of_ble_eq_true rfl) (Nat.le_of_ble_eq_true rfl) (Nat.le_of_ble_eq_true rfl) hlocks (fun t9 _ h8 h9 => ⟨(), trivial, ⟨rfl, hP9.kept (fun k q hk => h9 q.1 (hP9 k q hk).lt), hD9⟩, Nat.le_trans hS.1 h8, fun q h1 h2 => (h9 q (Nat.lt_of_lt_of_le h1 hS.1)).trans (hS.2.1 q h1 h2)⟩) hS.2.2 (Nat.le_of_ble_eq_true rfl) (Nat.le_of_ble_eq_true rfl)
    · have b8 : iv 0 60 p0 := iv_leL (Int32.not_lt.mp c5) b4 (iv_k (by decide) (by decide) : iv 60 60 60) (by decide) (by decide)
      refine lv_iload_n hx hb dX10_missing_10 rfl (lv_at hl 2 rfl) ?_
      refine lv_iconst (v := 1) hx hb dX10_missing_11 (by decide) ?_
      refine lv_icmp_lt (tgt := 20) hx hb dX10_missing_12 (by decide) (fun c9 => absurd c9 (iv_nlt hp1 (iv_k (by decide) (by decide) : iv 1 1 1) (by decide))) (fun _ => ?_)
      refine lv_iload_n hx hb dX10_missing_15 rfl (lv_at hl 2 rfl) ?_
      refine lv_iconst (v := 5) hx hb dX10_missing_16 (by decide) ?_
      refine lv_icmp_le (tgt := 31) hx hb dX10_missing_17 (by decide) (fun c9 => absurd c9 (iv_nle hp1 (iv_k (by decide) (by decide) : iv 5 5 5) (by decide))) (fun _ => ?_)
      have hP9 := hP.sub (ws' := []) [] rfl
      have hD9 := hD.sub (ws' := []) [] (by decide) rfl
      obtain ⟨sa9, hstr⟩ := hXs.2.2.2.2.2.2.2.2.2.1
      exact vx_throwSW (names := ["java/lang/RuntimeException", "java/lang/Exception"]) hx hb hst hown (by decide +kernel) (by decide +kernel) hw_0 hw_1 hstr (vx_hat (L := vx_atS RX10 132 "java/lang/IllegalArgumentException" ["java/lang/RuntimeException", "java/lang/Exception"]) (B := [.castable "java/lang/IllegalArgumentException" "java/lang/IllegalArgumentException", .declares ⟨"java/lang/RuntimeException", "<init>", "(Ljava/lang/String;)V"⟩, .declares ⟨"java/lang/Exception", "<init>", "(Ljava/lang/String;)V"⟩, .declares ⟨"java/lang/Throwable", "<init>", "(Ljava/lang/String;)V"⟩]) (fun w hw => hts w ((by decide +kernel : ∀ w ∈ (vx_atS RX10 132 "java/lang/IllegalArgumentException" ["java/lang/RuntimeException", "java/lang/Exception"]).filter goodWord, w ∈ wsX10_missing) w hw)) (by decide +kernel) (vx_c (va_Nw.use rfl hXs.2.1) (vx_c (va_Nw.use rfl hXs.2.2.1) (vx_c (va_Nw.use rfl hXs.2.2.2.1) (vx_c (va_Nw.use rfl hXs.2.2.2.2.1) (vx_n)))))) (by decide +kernel) hT.1 hT.2 hS (by rw [hml]; exact hl.1) dX10_missing_20 dX10_missing_23 dX10_missing_24 dX10_missing_27 dX10_missing_30 (fun x h9 => (hexT x h9).elim) (Nat.le_of_ble_eq_true rfl) (Nat.le_of_ble_eq_true rfl) (Nat.le_of_ble_eq_true rfl) (Nat.le_of_ble_eq_true rfl) hlocks (fun t9 _ h8 h9 => ⟨(), trivial, ⟨rfl, hP9.kept (fun k q hk => h9 q.1 (hP9 k q hk).lt), hD9⟩, Nat.le_trans hS.1 h8, fun q h1 h2 => (h9 q (Nat.lt_of_lt_of_le h1 hS.1)).trans (hS.2.1 q h1 h2)⟩) hS.2.2 (Nat.le_of_ble_eq_true rfl) (Nat.le_of_ble_eq_true rfl)
def rm_sL_missing_mhi : Room := { frames := 7, cells := 1, slots := 6, locals := 104 }
set_option maxHeartbeats 4000000 in
set_option maxRecDepth 100000 in
theorem sL_missing_mhi (l : Launch) (hst : l.stackTraces = false) (dC : Nat → ClassId) (dI : Nat → Nat → Nat) (kB kI kJ kZ kC kS : ClassId) (sz : Nat) (op : Nat) (ot : Nat) (on : Nat) (dn : Nat) (rd : Nat) (oc : Nat) (d : Nat) (o : Nat) (si : Nat) (w : Nat) (se : Nat) (nb : Nat) (hi : Nat) (p_status : Nat) (oe : Nat) (ih : Nat) (mb : Nat) (p_imageStatus : Nat) (x_p : Nat → Int32) (p0 : Int32) (p1 : Int32) (ou : Nat) (hp1 : iv 6 2147483647 p1) : Met l yL_missing wsL_missing rm_sL_missing_mhi (va_Pc [.ref op, .int p0, .int p1, .ref ou] (fun U => U.heap.size = sz ∧ va_P (dC, dI) vwCl [(op, .inr (10, oX10 ot on dn rd oc d o si w se nb hi p_status oe ih mb p_imageStatus x_p))] U.heap ∧ kE dC dI kB kI kJ kZ kC kS U ∧ va_D (fun _ => True) [(op, .inr (10, oX10 ot on dn rd oc d o si w se nb hi p_status oe ih mb p_imageStatus x_p))] ∧ kX U ∧ kT (va_A [(op, .inr (10, oX10 ot on dn rd oc d o si w se nb hi p_status oe ih mb p_imageStatus x_p))] sz) U)) (va_Qi (fun (r : Int32) (_ : Unit) => r = 1) (fun _ t => va_P (dC, dI) vwCl [(op, .inr (10, oX10 ot on dn rd oc d o si w se nb hi p_status oe ih mb p_imageStatus x_p))] t.heap ∧ va_D (va_A [(op, .inr (10, oX10 ot on dn rd oc d o si w se nb hi p_status oe ih mb p_imageStatus x_p))] sz) [(op, .inr (10, oX10 ot on dn rd oc d o si w se nb hi p_status oe ih mb p_imageStatus x_p))]) (va_A [(op, .inr (10, oX10 ot on dn rd oc d o si w se nb hi p_status oe ih mb p_imageStatus x_p))] sz)) 1 6 (va_A [(op, .inr (10, oX10 ot on dn rd oc d o si w se nb hi p_status oe ih mb p_imageStatus x_p))] sz) := by
  refine va_MetW (cc := cL_missing) (maxL := 5) (ret := (some .int)) (by decide) rfl ?_
  intro p e s m args0 below meth c s₁ B hml hv
  obtain ⟨hargs, hsz, hP, hE, hD0, hXs, hT⟩ := hv
  have hx := B.exec
  have hb := B.bytes
  have hr := B.returns
  have hts := atoms_spec (ws := wsL_missing) B.pre
  have hown : s.vm.findClass RL = some m.cls := findClass_of_methodNamed B.named
  have hlocks := B.notSynchronized
  have hK := hE.1
  have hin10 : ∀ w ∈ wsX100, w ∈ wsL_missing := fun _ h9 => List.mem_cons_of_mem _ (List.mem_append_left _ (List.mem_append_left _ (List.mem_append_right _ h9)))
  have hin4 : ∀ w ∈ wsX40, w ∈ wsL_missing := fun _ h9 => List.mem_cons_of_mem _ (List.mem_append_left _ (List.mem_append_right _ h9))
  have hw_0 := hts (.classLink RL 13 "java/lang/IllegalArgumentException") (List.mem_of_getElem? (i := 1) (by decide +kernel))
  subst hsz
  have hD := hD0.self (sz := s.heap.size)
  generalize hAe : va_A [(op, .inr (10, oX10 ot on dn rd oc d o si w se nb hi p_status oe ih mb p_imageStatus x_p))] s.heap.size = A at hD hT ⊢
  have hA : ∀ q : Nat, s.heap.size ≤ q → A q := fun q h => by rw [← hAe]; exact Or.inr h
  have hS : va_S A s.heap s.heap [] := va_S.rf
  have hP : va_P (dC, dI) vwCl [(op, .inr (10, oX10 ot on dn rd oc d o si w se nb hi p_status oe ih mb p_imageStatus x_p))] s.heap := hP
  have hl := lv_entry ([.ref op, .int p0, .int p1, .ref ou]) (n := 5) (Nat.le_of_ble_eq_true rfl)
  have hla : entryFrame m args0 5 = entryFrame m ([.ref op, .int p0, .int p1, .ref ou] : List Value).toArray 5 := by rw [hargs]
  rw [hla, lg_entry_eq]
  generalize (lg_sl ([.ref op, .int p0, .int p1, .ref ou]) ++ List.replicate (5 - (lg_sl ([.ref op, .int p0, .int p1, .ref ou])).length) Slot.unset).toArray = ls at hl ⊢
  have hl : lv_has ls 5 [(0, .ref op), (1, .int p0), (2, .int p1), (3, .ref ou)] := hl
  refine lv_aload_n hx hb dL_missing_0 rfl (lv_at hl 3 rfl) ?_
  refine lv_iconst (v := 0) hx hb dL_missing_1 (by decide) ?_
  refine lv_aload_n hx hb dL_missing_2 rfl (lv_at hl 0 rfl) ?_
  refine lv_iload_n hx hb dL_missing_3 rfl (lv_at hl 1 rfl) ?_
  refine lv_iload_n hx hb dL_missing_4 rfl (lv_at hl 2 rfl) ?_
  have hPc := hP.sub (ws' := []) [] rfl
  have hDc := hD.sub (ws' := []) [] (by decide) rfl
  have hFc := va_free (wc := []) hD hS hA [] rfl
  refine vx_calll (vx_runV (As := [.int p0, .int p1]) (rest := [.int 0, .ref ou]) ⟨hx, hb, hml, hown, hts⟩ (s10_missing_mhi l hst dC dI kB kI kJ kZ kC kS s.heap.size op p0 p1 (hp1)) (cwV 2 hts gL_missing_X10_missing rfl rfl rfl (by decide +kernel) ⟨Nat.le_of_ble_eq_true rfl, Nat.le_of_ble_eq_true rfl⟩) ⟨fun a U g mk q => by obtain ⟨q0, q1, qP, qE, qD, qX, qT⟩ := q; exact ⟨q0, q1, qP, kE_call qE, qD, kX_call qX, kT_call qT⟩, va_recv hK hP (ci := 10) (q0 := 0) rfl rfl, fun U hU hW => ⟨rfl, by rw [hU], by rw [hU]; exact hPc, kE_warm hW hE, hDc.weaken (fun _ _ _ _ => trivial), kX_warm hW hXs, kT_at hT hS hFc hW hU⟩⟩ rfl rfl hl.1 rfl (lv_room (Nat.le_of_ble_eq_true rfl)) dL_missing_5 ⟨Nat.le_of_ble_eq_true rfl, Nat.le_of_ble_eq_true rfl⟩) hS (fun q _ h => hFc q h) hFc (fun q _ h => hFc q h) (fun E ce q9 u t H1 locs ht hvm hpx hBX hz1 hk1 hS hc9 hv9 hcl9 => ?_) (fun r1 u t H1 locs ht hvm w2 hB hz1 hk1 hS => ?_)
  · obtain ⟨hE9, hP1, hD1⟩ := hBX
    rw [ht] at hP1
    obtain ⟨hP, hD⟩ := va_join (wr := [(op, .inr (10, oX10 ot on dn rd oc d o si w se nb hi p_status oe ih mb p_imageStatus x_p))]) (w1 := []) hP hD [] [0] rfl rfl (by decide) (by decide) hk1 hFc hP1 hD1
    generalize H1 = H at hP hS hc9 ⊢
    have hP : va_P (dC, dI) vwCl [(op, .inr (10, oX10 ot on dn rd oc d o si w se nb hi p_status oe ih mb p_imageStatus x_p))] H := hP
    have hD : va_D A [(op, .inr (10, oX10 ot on dn rd oc d o si w se nb hi p_status oe ih mb p_imageStatus x_p))] := hD
    subst hE9
    have htab := vx_table (x := yL_missing) B (hts (.codeWith yL_missing cL_missing 5 (some .int) [(0, 9, 12, 13)]) (List.mem_of_getElem? (i := 0) (by decide +kernel)))
    refine vx_catch (name := "java/lang/IllegalArgumentException") hown [] ⟨0, 9, 12, 13⟩ [] (htab.trans rfl) (fun z h => absurd h List.not_mem_nil) rfl (by decide) hw_0 (va_Nw.use rfl hXs.2.1) hc9 hv9 hcl9 ?_
    refine W.widen (k := 1) (n := 6) (Nat.le_of_ble_eq_true rfl) (Nat.le_of_ble_eq_true rfl) ?_
    refine W.eq (g2 := F0 m 12 ls [.ref q9]) rfl ?_
    refine lv_astore (lv' := [(4, .ref q9), (0, .ref op), (1, .int p0), (2, .int p1), (3, .ref ou)]) hx hb dL_missing_12 hl (by decide) rfl (fun ls hl => ?_)
    refine lv_iconst (v := 1) hx hb dL_missing_14 (by decide) ?_
    have hP9 := hP.sub (ws' := [(op, .inr (10, oX10 ot on dn rd oc d o si w se nb hi p_status oe ih mb p_imageStatus x_p))]) [0] rfl
    have hD9 := hD.sub (ws' := [(op, .inr (10, oX10 ot on dn rd oc d o si w se nb hi p_status oe ih mb p_imageStatus x_p))]) [0] (by decide) rfl
    exact W.iret (v := 1) hx hb hr (fun t ht hW => ⟨⟨1, (), rfl, rfl, by rw [ht]; exact hP9, hD9⟩, hS.F ht⟩) hS.2.2 dL_missing_15
  · exact w2.elim
def rm_s11_missing_mhi : Room := { frames := 1, cells := 0, slots := 0, locals := 22 }
set_option maxHeartbeats 4000000 in
set_option maxRecDepth 100000 in
theorem s11_missing_mhi (l : Launch) (dC : Nat → ClassId) (dI : Nat → Nat → Nat) (kB kI kJ kZ kC kS : ClassId) (sz : Nat) (m0 : Nat) (ra : Nat → Nat) (x0 : Nat → Int32) (p0 : Int32) (p1 : Int32) (hX : fI lX11 hX11 x0) (hp1 : iv 6 2147483647 p1) : Met l yX11_missing wsX11_missing rm_s11_missing_mhi (va_Pc [.ref m0, .int p0, .int p1] (fun U => U.heap.size = sz ∧ va_P (dC, dI) vwCl [(m0, .inr (11, oX11 ra x0))] U.heap ∧ kE dC dI kB kI kJ kZ kC kS U ∧ va_D (fun _ => True) [(m0, .inr (11, oX11 ra x0))])) (va_Ql (fun (r : Int64) (_ : Unit) => True) (fun _ t => ∃ (x0' : Nat → Int32), fI lX11 hX11 x0' ∧ (x0' 0 = 1) ∧ va_P (dC, dI) vwCl [(m0, .inr (11, oX11 ra x0'))] t.heap ∧ va_D (va_A [(m0, .inr (11, oX11 ra x0))] sz) [(m0, .inr (11, oX11 ra x0'))]) (va_A [(m0, .inr (11, oX11 ra x0))] sz)) 0 0 (va_A [(m0, .inr (11, oX11 ra x0))] sz) := by
  refine Met.ofW (cc := cX11_missing) (maxL := 3) (ret := (some .long)) (by decide) rfl ?_
  intro p e s m args0 below meth c s₁ B hml hv
  obtain ⟨hargs, hsz, hP, hE, hD0⟩ := hv
  have hx := B.exec
  have hb := B.bytes
  have hr := B.returns
  have hts := atoms_spec (ws := wsX11_missing) B.pre
  have hown : s.vm.findClass RX11 = some m.cls := findClass_of_methodNamed B.named
  have hlocks := B.notSynchronized
  have hK := hE.1
  have hin11 : ∀ w ∈ wsX110, w ∈ wsX11_missing := fun _ h9 => List.mem_cons_of_mem _ (List.mem_append_right _ h9)
  have hw_0 := hts (.fieldLink RX11 142 "PathProberModel" "code" "I") (List.mem_of_getElem? (i := 1) (by decide +kernel))
  subst hsz
  have hD := hD0.self (sz := s.heap.size)
  generalize hAe : va_A [(m0, .inr (11, oX11 ra x0))] s.heap.size = A at hD ⊢
  have hA : ∀ q : Nat, s.heap.size ≤ q → A q := fun q h => by rw [← hAe]; exact Or.inr h
  have hS : va_S A s.heap s.heap [] := va_S.rf
  have hP : va_P (dC, dI) vwCl [(m0, .inr (11, oX11 ra x0))] s.heap := hP
  have hl := lv_entry ([.ref m0, .int p0, .int p1]) (n := 3) (Nat.le_of_ble_eq_true rfl)
  have hla : entryFrame m args0 3 = entryFrame m ([.ref m0, .int p0, .int p1] : List Value).toArray 3 := by rw [hargs]
  rw [hla, lg_entry_eq]
  generalize (lg_sl ([.ref m0, .int p0, .int p1]) ++ List.replicate (3 - (lg_sl ([.ref m0, .int p0, .int p1])).length) Slot.unset).toArray = ls at hl ⊢
  have hl : lv_has ls 3 [(0, .ref m0), (1, .int p0), (2, .int p1)] := hl
  refine lv_aload_n hx hb dX11_missing_0 rfl (lv_at hl 0 rfl) ?_
  refine lv_iconst (v := 0) hx hb dX11_missing_1 (by decide) ?_
  refine va_put (D := (dC, dI)) (ci := 11) (v := .int 0) (ty := .int) (C := RX11) (T := TX11) (N := 61) hx hb hts hin11 tyX11 tyX11_ok nmX11 hown hK hP hD hS 0 rfl rfl 2 (by decide) hw_0 (fun _ h9 => h9) rfl (by decide +kernel) rfl rfl (Nat.le_of_ble_eq_true rfl) dX11_missing_2 (fun H locs hP hD hS => ?_)
  have hP : va_P (dC, dI) vwCl [(m0, .inr (11, oX11 ra (upd x0 0 0)))] H := hP
  have hD : va_D A [(m0, .inr (11, oX11 ra (upd x0 0 0)))] := hD
  refine lv_iload_n hx hb dX11_missing_5 rfl (lv_at hl 1 rfl) ?_
  refine lv_iconst (v := 0) hx hb dX11_missing_6 (by decide) ?_
  refine lv_bipush (v := 60) hx hb dX11_missing_7 (by decide) ?_
  have hPc := hP.sub (ws' := []) [] rfl
  have hDc := hD.sub (ws' := []) [] (by decide) rfl
  have hFc := va_free (wc := []) hD hS hA [] rfl
  refine va_calli (va_runS (As := [.int p0, .int 0, .int 60]) (rest := []) ⟨hx, hb, hml, hown, hts⟩ (s11_isIn l dC dI kB kI kJ kZ kC kS H.size p0 0 60) (va_cwS 3 hts gX11_missing_X11_isIn rfl rfl rfl (by decide +kernel) ⟨Nat.le_of_ble_eq_true rfl, Nat.le_of_ble_eq_true rfl⟩) ⟨fun a U g mk q => by obtain ⟨q0, q1, qP, qE, qD⟩ := q; exact ⟨q0, q1, qP, kE_call qE, qD⟩, fun U hU hW => ⟨rfl, by rw [hU], by rw [hU]; exact hPc, kE_warm hW hE, hDc.weaken (fun _ _ _ _ => trivial)⟩⟩ rfl rfl hl.1 rfl (lv_room (Nat.le_of_ble_eq_true rfl)) dX11_missing_9 ⟨Nat.le_of_ble_eq_true rfl, Nat.le_of_ble_eq_true rfl⟩) hS (fun q _ h => hFc q h) hFc (fun r1 u t H1 locs ht hvm w2 hB hz1 hk1 hS => ?_)
  obtain ⟨hP1, hD1⟩ := hB
  rw [ht] at hP1
  try dsimp only at w2
  obtain ⟨hP, hD⟩ := va_join (wr := [(m0, .inr (11, oX11 ra (upd x0 0 0)))]) (w1 := []) hP hD [] [0] rfl rfl (by decide) (by decide) hk1 hFc hP1 hD1
  generalize H1 = H at hP hS ⊢
  have hP : va_P (dC, dI) vwCl [(m0, .inr (11, oX11 ra (upd x0 0 0)))] H := hP
  have hD : va_D A [(m0, .inr (11, oX11 ra (upd x0 0 0)))] := hD
  refine W.widen (k := 0) (n := 0) (Nat.le_of_ble_eq_true rfl) (Nat.le_of_ble_eq_true rfl) ?_
  refine lv_if_eq (tgt := 33) hx hb dX11_missing_12 (by decide) (fun c3 => ?_) (fun c3 => ?_)
  · have b4 : iv 0 0 r1 := iv_eqL c3 (iv_k (by decide) (by decide) : iv 0 0 0)
    refine lv_aload_n hx hb dX11_missing_33 rfl (lv_at hl 0 rfl) ?_
    refine lv_iconst (v := 1) hx hb dX11_missing_34 (by decide) ?_
    have hPc := hP.sub (ws' := [(m0, .inr (11, oX11 ra (upd x0 0 0)))]) [0] rfl
    have hDc := hD.sub (ws' := [(m0, .inr (11, oX11 ra (upd x0 0 0)))]) [0] (by decide) rfl
    have hFc := va_free (wc := [(m0, .inr (11, oX11 ra (upd x0 0 0)))]) hD hS hA [0] rfl
    refine va_calli (va_runV (As := [.int 1]) (rest := []) ⟨hx, hb, hml, hown, hts⟩ (s11_fail l dC dI kB kI kJ kZ kC kS H.size m0 ra (upd x0 0 0) 1 ((fI_u hX (k := 0) ((iv_w (iv_k (by decide) (by decide) : iv 0 0 0) (by decide) (by decide)))))) (cwV 1 hts gX11_missing_X11_fail rfl rfl rfl (by decide +kernel) ⟨Nat.le_of_ble_eq_true rfl, Nat.le_of_ble_eq_true rfl⟩) ⟨fun a U g mk q => by obtain ⟨q0, q1, qP, qE, qD⟩ := q; exact ⟨q0, q1, qP, kE_call qE, qD⟩, va_recv hK hP (ci := 11) (q0 := 0) rfl rfl, fun U hU hW => ⟨rfl, by rw [hU], by rw [hU]; exact hPc, kE_warm hW hE, hDc.weaken (fun _ _ _ _ => trivial)⟩⟩ rfl rfl hl.1 rfl (lv_room (Nat.le_of_ble_eq_true rfl)) dX11_missing_35 ⟨Nat.le_of_ble_eq_true rfl, Nat.le_of_ble_eq_true rfl⟩) hS (fun q _ h => hFc q h) hFc (fun r5 u t H1 locs ht hvm w6 hB hz1 hk1 hS => ?_)
    obtain ⟨y7, hq8, hq9, hP1, hD1⟩ := hB
    rw [ht] at hP1
    try dsimp only at w6
    obtain ⟨hP, hD⟩ := va_join (wr := []) (w1 := [(m0, .inr (11, oX11 ra y7))]) hP hD [0] [] rfl rfl (by decide) (by decide) hk1 hFc hP1 hD1
    generalize H1 = H at hP hS ⊢
    have hP : va_P (dC, dI) vwCl [(m0, .inr (11, oX11 ra y7))] H := hP
    have hD : va_D A [(m0, .inr (11, oX11 ra y7))] := hD
    refine W.widen (k := 0) (n := 0) (Nat.le_of_ble_eq_true rfl) (Nat.le_of_ble_eq_true rfl) ?_
    obtain rfl : r5 = 0 := iv_one w6 (by decide)
    refine lv_i2l (v := 0) hx hb dX11_missing_38 (by decide) ?_
    have hP9 := hP.sub (ws' := [(m0, .inr (11, oX11 ra y7))]) [0] rfl
    have hD9 := hD.sub (ws' := [(m0, .inr (11, oX11 ra y7))]) [0] (by decide) rfl
    exact W.lret (v := 0) hx hb hr (fun t ht hW => ⟨⟨0, (), rfl, trivial, y7, hq8, (show y7 0 = 1 from hq9), by rw [ht]; exact hP9, hD9⟩, hS.F ht⟩) hS.2.2 dX11_missing_39
  · have b10 : iv 1 1 r1 := iv_neLo c3 w2.1 (iv_k (by decide) (by decide) : iv 0 0 0) (by decide) (by decide)
    have hr11 := (w2.2).resolve_left (iv_ne b10 (iv_k (by decide) (by decide) : iv 0 0 0) (by decide))
    have b12 : iv 0 60 p0 := iv_cap (in_iv hr11 (iv_k (by decide) (by decide) : iv 0 0 0) (iv_k (by decide) (by decide) : iv 60 60 60)) (iv_t p0) (by decide) (by decide)
    refine lv_iload_n hx hb dX11_missing_15 rfl (lv_at hl 2 rfl) ?_
    refine lv_iconst (v := 1) hx hb dX11_missing_16 (by decide) ?_
    refine lv_iconst (v := 5) hx hb dX11_missing_17 (by decide) ?_
    have hPc := hP.sub (ws' := []) [] rfl
    have hDc := hD.sub (ws' := []) [] (by decide) rfl
    have hFc := va_free (wc := []) hD hS hA [] rfl
    refine va_calli (va_runS (As := [.int p1, .int 1, .int 5]) (rest := []) ⟨hx, hb, hml, hown, hts⟩ (s11_isIn l dC dI kB kI kJ kZ kC kS H.size p1 1 5) (va_cwS 3 hts gX11_missing_X11_isIn rfl rfl rfl (by decide +kernel) ⟨Nat.le_of_ble_eq_true rfl, Nat.le_of_ble_eq_true rfl⟩) ⟨fun a U g mk q => by obtain ⟨q0, q1, qP, qE, qD⟩ := q; exact ⟨q0, q1, qP, kE_call qE, qD⟩, fun U hU hW => ⟨rfl, by rw [hU], by rw [hU]; exact hPc, kE_warm hW hE, hDc.weaken (fun _ _ _ _ => trivial)⟩⟩ rfl rfl hl.1 rfl (lv_room (Nat.le_of_ble_eq_true rfl)) dX11_missing_18 ⟨Nat.le_of_ble_eq_true rfl, Nat.le_of_ble_eq_true rfl⟩) hS (fun q _ h => hFc q h) hFc (fun r13 u t H1 locs ht hvm w14 hB hz1 hk1 hS => ?_)
    obtain ⟨hP1, hD1⟩ := hB
    rw [ht] at hP1
    try dsimp only at w14
    obtain ⟨hP, hD⟩ := va_join (wr := [(m0, .inr (11, oX11 ra (upd x0 0 0)))]) (w1 := []) hP hD [] [0] rfl rfl (by decide) (by decide) hk1 hFc hP1 hD1
    generalize H1 = H at hP hS ⊢
    have hP : va_P (dC, dI) vwCl [(m0, .inr (11, oX11 ra (upd x0 0 0)))] H := hP
    have hD : va_D A [(m0, .inr (11, oX11 ra (upd x0 0 0)))] := hD
    refine W.widen (k := 0) (n := 0) (Nat.le_of_ble_eq_true rfl) (Nat.le_of_ble_eq_true rfl) ?_
    refine lv_if_eq (tgt := 33) hx hb dX11_missing_21 (by decide) (fun c15 => ?_) (fun c15 => ?_)
    · have b16 : iv 0 0 r13 := iv_eqL c15 (iv_k (by decide) (by decide) : iv 0 0 0)
      refine lv_aload_n hx hb dX11_missing_33 rfl (lv_at hl 0 rfl) ?_
      refine lv_iconst (v := 1) hx hb dX11_missing_34 (by decide) ?_
      have hPc := hP.sub (ws' := [(m0, .inr (11, oX11 ra (upd x0 0 0)))]) [0] rfl
      have hDc := hD.sub (ws' := [(m0, .inr (11, oX11 ra (upd x0 0 0)))]) [0] (by decide) rfl
      have hFc := va_free (wc := [(m0, .inr (11, oX11 ra (upd x0 0 0)))]) hD hS hA [0] rfl
      refine va_calli (va_runV (As := [.int 1]) (rest := []) ⟨hx, hb, hml, hown, hts⟩ (s11_fail l dC dI kB kI kJ kZ kC kS H.size m0 ra (upd x0 0 0) 1 ((fI_u hX (k := 0) ((iv_w (iv_k (by decide) (by decide) : iv 0 0 0) (by decide) (by decide)))))) (cwV 1 hts gX11_missing_X11_fail rfl rfl rfl (by decide +kernel) ⟨Nat.le_of_ble_eq_true rfl, Nat.le_of_ble_eq_true rfl⟩) ⟨fun a U g mk q => by obtain ⟨q0, q1, qP, qE, qD⟩ := q; exact ⟨q0, q1, qP, kE_call qE, qD⟩, va_recv hK hP (ci := 11) (q0 := 0) rfl rfl, fun U hU hW => ⟨rfl, by rw [hU], by rw [hU]; exact hPc, kE_warm hW hE, hDc.weaken (fun _ _ _ _ => trivial)⟩⟩ rfl rfl hl.1 rfl (lv_room (Nat.le_of_ble_eq_true rfl)) dX11_missing_35 ⟨Nat.le_of_ble_eq_true rfl, Nat.le_of_ble_eq_true rfl⟩) hS (fun q _ h => hFc q h) hFc (fun r17 u t H1 locs ht hvm w18 hB hz1 hk1 hS => ?_)
      obtain ⟨y19, hq20, hq21, hP1, hD1⟩ := hB
      rw [ht] at hP1
      try dsimp only at w18
      obtain ⟨hP, hD⟩ := va_join (wr := []) (w1 := [(m0, .inr (11, oX11 ra y19))]) hP hD [0] [] rfl rfl (by decide) (by decide) hk1 hFc hP1 hD1
      generalize H1 = H at hP hS ⊢
      have hP : va_P (dC, dI) vwCl [(m0, .inr (11, oX11 ra y19))] H := hP
      have hD : va_D A [(m0, .inr (11, oX11 ra y19))] := hD
      refine W.widen (k := 0) (n := 0) (Nat.le_of_ble_eq_true rfl) (Nat.le_of_ble_eq_true rfl) ?_
      obtain rfl : r17 = 0 := iv_one w18 (by decide)
      refine lv_i2l (v := 0) hx hb dX11_missing_38 (by decide) ?_
      have hP9 := hP.sub (ws' := [(m0, .inr (11, oX11 ra y19))]) [0] rfl
      have hD9 := hD.sub (ws' := [(m0, .inr (11, oX11 ra y19))]) [0] (by decide) rfl
      exact W.lret (v := 0) hx hb hr (fun t ht hW => ⟨⟨0, (), rfl, trivial, y19, hq20, (show y19 0 = 1 from hq21), by rw [ht]; exact hP9, hD9⟩, hS.F ht⟩) hS.2.2 dX11_missing_39
    · have b22 : iv 1 1 r13 := iv_neLo c15 w14.1 (iv_k (by decide) (by decide) : iv 0 0 0) (by decide) (by decide)
      have hr23 := (w14.2).resolve_left (iv_ne b22 (iv_k (by decide) (by decide) : iv 0 0 0) (by decide))
      have b24 : iv 6 5 p1 := iv_cap (in_iv hr23 (iv_k (by decide) (by decide) : iv 1 1 1) (iv_k (by decide) (by decide) : iv 5 5 5)) hp1 (by decide) (by decide)
      exact (iv_no b24 (by decide)).elim
