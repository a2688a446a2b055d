def rm_s10_same_in : Room := { frames := 2, cells := 0, slots := 0, locals := 42 }
set_option maxHeartbeats 4000000 in
set_option maxRecDepth 100000 in
theorem s10_same_in (l : Launch) (dC : Nat → ClassId) (dI : Nat → Nat → Nat) (kB kI kJ kZ kC kS : ClassId) (sz : Nat) (op : Nat) (ot : Nat) (on : Nat) (dn : Nat) (rd : Nat) (oc : Nat) (d : Nat) (o : Nat) (si : Nat) (w : Nat) (se : Nat) (nb : Nat) (hi : Nat) (p_status : Nat) (oe : Nat) (ih : Nat) (mb : Nat) (p_imageStatus : Nat) (x_p : Nat → Int32) (n_kind : Nat) (n_salt : Nat) (n_pace : Nat) (n_manner : Nat) (n_from : Nat) (n_to : Nat) (n_goal : Nat) (n_reach : Nat) (n_branches : Nat) (n_branch : Nat) (n_tally : Nat) (x_n : Nat → Int32) (f_n_to : Nat → Int32) (p0 : Int32) (p1 : Int32) (hx_n : fI lX2 hX2 x_n) (hf_n_to : fI (fun _ => 0) (fun _ => 11) f_n_to) (hp0 : iv 0 20 p0) (hp1 : iv 0 20 p1) (h0 : 0 < x_n 0) (hj1 : p0 ≤ x_n 1) (hj2 : p1 ≤ x_n 1) : Met l yX10_same wsX10_same rm_s10_same_in (va_Pc [.ref op, .int p0, .int p1] (fun U => U.heap.size = sz ∧ va_P (dC, dI) vwCl [(op, .inr (10, oX10 ot on dn rd oc d o si w se nb hi p_status oe ih mb p_imageStatus x_p)), (on, .inr (2, oX2 n_kind n_salt n_pace n_manner n_from n_to n_goal n_reach n_branches n_branch n_tally x_n)), (n_to, .inl (kI, 20, .inl f_n_to))] U.heap ∧ kE dC dI kB kI kJ kZ kC kS U ∧ va_D (fun _ => True) [(op, .inr (10, oX10 ot on dn rd oc d o si w se nb hi p_status oe ih mb p_imageStatus x_p)), (on, .inr (2, oX2 n_kind n_salt n_pace n_manner n_from n_to n_goal n_reach n_branches n_branch n_tally x_n)), (n_to, .inl (kI, 20, .inl f_n_to))])) (va_Qi (fun (r : Int32) (_ : Unit) => r = smT (rtrT f_n_to p0) (rtrT f_n_to p1)) (fun _ t => va_P (dC, dI) vwCl [(op, .inr (10, oX10 ot on dn rd oc d o si w se nb hi p_status oe ih mb p_imageStatus x_p)), (on, .inr (2, oX2 n_kind n_salt n_pace n_manner n_from n_to n_goal n_reach n_branches n_branch n_tally x_n)), (n_to, .inl (kI, 20, .inl f_n_to))] t.heap ∧ va_D (va_A [(op, .inr (10, oX10 ot on dn rd oc d o si w se nb hi p_status oe ih mb p_imageStatus x_p)), (on, .inr (2, oX2 n_kind n_salt n_pace n_manner n_from n_to n_goal n_reach n_branches n_branch n_tally x_n)), (n_to, .inl (kI, 20, .inl f_n_to))] sz) [(op, .inr (10, oX10 ot on dn rd oc d o si w se nb hi p_status oe ih mb p_imageStatus x_p)), (on, .inr (2, oX2 n_kind n_salt n_pace n_manner n_from n_to n_goal n_reach n_branches n_branch n_tally x_n)), (n_to, .inl (kI, 20, .inl f_n_to))]) (va_A [(op, .inr (10, oX10 ot on dn rd oc d o si w se nb hi p_status oe ih mb p_imageStatus x_p)), (on, .inr (2, oX2 n_kind n_salt n_pace n_manner n_from n_to n_goal n_reach n_branches n_branch n_tally x_n)), (n_to, .inl (kI, 20, .inl f_n_to))] sz)) 0 0 (va_A [(op, .inr (10, oX10 ot on dn rd oc d o si w se nb hi p_status oe ih mb p_imageStatus x_p)), (on, .inr (2, oX2 n_kind n_salt n_pace n_manner n_from n_to n_goal n_reach n_branches n_branch n_tally x_n)), (n_to, .inl (kI, 20, .inl f_n_to))] sz) := by
  refine Met.ofW (cc := cX10_same) (maxL := 3) (ret := (some .int)) (by decide) rfl ?_
  intro p e s m args0 below meth c s₁ B hml hv
  obtain ⟨hargs, hsz, hP, hE, hD0⟩ := hv
  have hx := B.exec
  have hb := B.bytes
  have hr := B.returns
  have hts := atoms_spec (ws := wsX10_same) B.pre
  have hown : s.vm.findClass RX10 = some m.cls := findClass_of_methodNamed B.named
  have hlocks := B.notSynchronized
  have hK := hE.1
  have hin10 : ∀ w ∈ wsX100, w ∈ wsX10_same := fun _ h9 => List.mem_cons_of_mem _ (List.mem_append_left _ (List.mem_append_left _ (List.mem_append_right _ h9)))
  have hin2 : ∀ w ∈ wsX20, w ∈ wsX10_same := fun _ h9 => List.mem_cons_of_mem _ (List.mem_append_left _ (List.mem_append_right _ h9))
  have hw_0 := hts (.fieldLink RX10 19 "PathProber" "told" "LPathProber$Net;") (List.mem_of_getElem? (i := 1) rfl)
  subst hsz
  have hD := hD0.self (sz := s.heap.size)
  generalize hAe : va_A [(op, .inr (10, oX10 ot on dn rd oc d o si w se nb hi p_status oe ih mb p_imageStatus x_p)), (on, .inr (2, oX2 n_kind n_salt n_pace n_manner n_from n_to n_goal n_reach n_branches n_branch n_tally x_n)), (n_to, .inl (kI, 20, .inl f_n_to))] s.heap.size = A at hD ⊢
  have hA : ∀ q : Nat, s.heap.size ≤ q → A q := fun q h => by rw [← hAe]; exact Or.inr h
  have hS : va_S A s.heap s.heap [] := va_S.rf
  have hP : va_P (dC, dI) vwCl [(op, .inr (10, oX10 ot on dn rd oc d o si w se nb hi p_status oe ih mb p_imageStatus x_p)), (on, .inr (2, oX2 n_kind n_salt n_pace n_manner n_from n_to n_goal n_reach n_branches n_branch n_tally x_n)), (n_to, .inl (kI, 20, .inl f_n_to))] s.heap := hP
  have hl := lv_entry ([.ref op, .int p0, .int p1]) (n := 3) (Nat.le_of_ble_eq_true rfl)
  have hla : entryFrame m args0 3 = entryFrame m ([.ref op, .int p0, .int p1] : List Value).toArray 3 := by rw [hargs]
  rw [hla, lg_entry_eq]
  generalize (lg_sl ([.ref op, .int p0, .int p1]) ++ List.replicate (3 - (lg_sl ([.ref op, .int p0, .int p1])).length) Slot.unset).toArray = ls at hl ⊢
  have hl : lv_has ls 3 [(0, .ref op), (1, .int p0), (2, .int p1)] := hl
  refine lv_aload_n hx hb dX10_same_0 rfl (lv_at hl 0 rfl) ?_
  refine lv_iload_n hx hb dX10_same_1 rfl (lv_at hl 1 rfl) ?_
  obtain ⟨hPc, hDc, hFc, hJn⟩ := cl_a (wc := [(op, .inr (10, oX10 ot on dn rd oc d o si w se nb hi p_status oe ih mb p_imageStatus x_p)), (on, .inr (2, oX2 n_kind n_salt n_pace n_manner n_from n_to n_goal n_reach n_branches n_branch n_tally x_n))]) (wr := [(n_to, .inl (kI, 20, .inl f_n_to))]) hP hD hS hA [0, 1] [2] rfl rfl (by decide +kernel)
  refine va_callv (va_runV (As := [.int p0]) (rest := []) ⟨hx, hb, hml, hown, hts⟩ (s10_mustBeAddress_in l dC dI kB kI kJ kZ kC kS s.heap.size op ot on dn rd oc d o si w se nb hi p_status oe ih mb p_imageStatus x_p n_kind n_salt n_pace n_manner n_from n_to n_goal n_reach n_branches n_branch n_tally x_n p0 (hx_n) (hp0) (h0) (hj1)) (cwV 1 hts gX10_same_X10_mustBeAddress rfl rfl rfl (by decide +kernel) ⟨Nat.le_of_ble_eq_true rfl, Nat.le_of_ble_eq_true rfl⟩) ⟨fun a U g mk q => by obtain ⟨q0, q1, qP, qE, qD⟩ := q; exact ⟨q0, q1, qP, kE_call qE, qD⟩, va_recv hK hP (ci := 10) (q0 := 0) rfl rfl, fun U hU hW => ⟨rfl, by rw [hU], by rw [hU]; exact hPc, kE_warm hW hE, hDc.weaken (fun _ _ _ _ => trivial)⟩⟩ rfl rfl hl.1 rfl (lv_room (Nat.le_of_ble_eq_true rfl)) dX10_same_2 ⟨Nat.le_of_ble_eq_true rfl, Nat.le_of_ble_eq_true rfl⟩) hS (fun q _ h => hFc q h) hFc (fun u t H locs ht hvm w2 hB hz1 hk1 hS => ?_)
  obtain ⟨hP1, hD1⟩ := hB
  try dsimp only at w2
  obtain ⟨hPa, hDa⟩ := hJn (w1 := [(op, .inr (10, oX10 ot on dn rd oc d o si w se nb hi p_status oe ih mb p_imageStatus x_p)), (on, .inr (2, oX2 n_kind n_salt n_pace n_manner n_from n_to n_goal n_reach n_branches n_branch n_tally x_n))]) hk1 ht hP1 hD1
  clear hP hD hPc hDc hFc hJn hP1 hD1 hk1
  have hP : va_P (dC, dI) vwCl [(n_to, .inl (kI, 20, .inl f_n_to)), (op, .inr (10, oX10 ot on dn rd oc d o si w se nb hi p_status oe ih mb p_imageStatus x_p)), (on, .inr (2, oX2 n_kind n_salt n_pace n_manner n_from n_to n_goal n_reach n_branches n_branch n_tally x_n))] H := hPa
  have hD : va_D A [(n_to, .inl (kI, 20, .inl f_n_to)), (op, .inr (10, oX10 ot on dn rd oc d o si w se nb hi p_status oe ih mb p_imageStatus x_p)), (on, .inr (2, oX2 n_kind n_salt n_pace n_manner n_from n_to n_goal n_reach n_branches n_branch n_tally x_n))] := hDa
  clear hPa hDa
  refine W.widen (k := 0) (n := 0) (Nat.le_of_ble_eq_true rfl) (Nat.le_of_ble_eq_true rfl) ?_
  refine lv_aload_n hx hb dX10_same_5 rfl (lv_at hl 0 rfl) ?_
  refine lv_iload_n hx hb dX10_same_6 rfl (lv_at hl 2 rfl) ?_
  obtain ⟨hPc, hDc, hFc, hJn⟩ := cl_a (wc := [(op, .inr (10, oX10 ot on dn rd oc d o si w se nb hi p_status oe ih mb p_imageStatus x_p)), (on, .inr (2, oX2 n_kind n_salt n_pace n_manner n_from n_to n_goal n_reach n_branches n_branch n_tally x_n))]) (wr := [(n_to, .inl (kI, 20, .inl f_n_to))]) hP hD hS hA [1, 2] [0] rfl rfl (by decide +kernel)
  refine va_callv (va_runV (As := [.int p1]) (rest := []) ⟨hx, hb, hml, hown, hts⟩ (s10_mustBeAddress_in l dC dI kB kI kJ kZ kC kS H.size op ot on dn rd oc d o si w se nb hi p_status oe ih mb p_imageStatus x_p n_kind n_salt n_pace n_manner n_from n_to n_goal n_reach n_branches n_branch n_tally x_n p1 (hx_n) (hp1) (h0) (hj2)) (cwV 1 hts gX10_same_X10_mustBeAddress rfl rfl rfl (by decide +kernel) ⟨Nat.le_of_ble_eq_true rfl, Nat.le_of_ble_eq_true rfl⟩) ⟨fun a U g mk q => by obtain ⟨q0, q1, qP, qE, qD⟩ := q; exact ⟨q0, q1, qP, kE_call qE, qD⟩, va_recv hK hP (ci := 10) (q0 := 1) rfl rfl, fun U hU hW => ⟨rfl, by rw [hU], by rw [hU]; exact hPc, kE_warm hW hE, hDc.weaken (fun _ _ _ _ => trivial)⟩⟩ rfl rfl hl.1 rfl (lv_room (Nat.le_of_ble_eq_true rfl)) dX10_same_7 ⟨Nat.le_of_ble_eq_true rfl, Nat.le_of_ble_eq_true rfl⟩) hS (fun q _ h => hFc q h) hFc (fun u t H locs ht hvm w4 hB hz1 hk1 hS => ?_)
  obtain ⟨hP1, hD1⟩ := hB
  try dsimp only at w4
  obtain ⟨hPa, hDa⟩ := hJn (w1 := [(op, .inr (10, oX10 ot on dn rd oc d o si w se nb hi p_status oe ih mb p_imageStatus x_p)), (on, .inr (2, oX2 n_kind n_salt n_pace n_manner n_from n_to n_goal n_reach n_branches n_branch n_tally x_n))]) hk1 ht hP1 hD1
  clear hP hD hPc hDc hFc hJn hP1 hD1 hk1
  have hP : va_P (dC, dI) vwCl [(n_to, .inl (kI, 20, .inl f_n_to)), (op, .inr (10, oX10 ot on dn rd oc d o si w se nb hi p_status oe ih mb p_imageStatus x_p)), (on, .inr (2, oX2 n_kind n_salt n_pace n_manner n_from n_to n_goal n_reach n_branches n_branch n_tally x_n))] H := hPa
  have hD : va_D A [(n_to, .inl (kI, 20, .inl f_n_to)), (op, .inr (10, oX10 ot on dn rd oc d o si w se nb hi p_status oe ih mb p_imageStatus x_p)), (on, .inr (2, oX2 n_kind n_salt n_pace n_manner n_from n_to n_goal n_reach n_branches n_branch n_tally x_n))] := hDa
  clear hPa hDa
  refine W.widen (k := 0) (n := 0) (Nat.le_of_ble_eq_true rfl) (Nat.le_of_ble_eq_true rfl) ?_
  refine lv_aload_n hx hb dX10_same_10 rfl (lv_at hl 0 rfl) ?_
  refine va_get (D := (dC, dI)) (ci := 10) (v := .ref on) (C := RX10) (T := TX10) (N := 19) hx hb hts hin10 hown hK hP 1 rfl rfl 1 (Nat.le_of_ble_eq_true rfl) hw_0 (fun _ h9 => h9) rfl dX10_same_11 ?_
  refine lv_iload_n hx hb dX10_same_14 rfl (lv_at hl 1 rfl) ?_
  obtain ⟨hPc, hDc, hFc, hJn⟩ := cl_a (wc := [(on, .inr (2, oX2 n_kind n_salt n_pace n_manner n_from n_to n_goal n_reach n_branches n_branch n_tally x_n)), (n_to, .inl (kI, 20, .inl f_n_to))]) (wr := [(op, .inr (10, oX10 ot on dn rd oc d o si w se nb hi p_status oe ih mb p_imageStatus x_p))]) hP hD hS hA [2, 0] [1] rfl rfl (by decide +kernel)
  refine va_calli (va_runV (As := [.int p0]) (rest := []) ⟨hx, hb, hml, hown, hts⟩ (s2_routerOf_in l dC dI kB kI kJ kZ kC kS H.size on n_kind n_salt n_pace n_manner n_from n_to n_goal n_reach n_branches n_branch n_tally x_n f_n_to p0 (hx_n) (hf_n_to) (hp0) (hj1)) (cwV 1 hts gX10_same_X2_routerOf rfl rfl rfl (by decide +kernel) ⟨Nat.le_of_ble_eq_true rfl, Nat.le_of_ble_eq_true rfl⟩) ⟨fun a U g mk q => by obtain ⟨q0, q1, qP, qE, qD⟩ := q; exact ⟨q0, q1, qP, kE_call qE, qD⟩, va_recv hK hP (ci := 2) (q0 := 2) rfl rfl, fun U hU hW => ⟨rfl, by rw [hU], by rw [hU]; exact hPc, kE_warm hW hE, hDc.weaken (fun _ _ _ _ => trivial)⟩⟩ rfl rfl hl.1 rfl (lv_room (Nat.le_of_ble_eq_true rfl)) dX10_same_15 ⟨Nat.le_of_ble_eq_true rfl, Nat.le_of_ble_eq_true rfl⟩) hS (fun q _ h => hFc q h) hFc (fun r5 u t H locs ht hvm w6 hB hz1 hk1 hS => ?_)
  obtain ⟨hP1, hD1⟩ := hB
  try dsimp only at w6
  obtain ⟨hPa, hDa⟩ := hJn (w1 := [(on, .inr (2, oX2 n_kind n_salt n_pace n_manner n_from n_to n_goal n_reach n_branches n_branch n_tally x_n)), (n_to, .inl (kI, 20, .inl f_n_to))]) hk1 ht hP1 hD1
  clear hP hD hPc hDc hFc hJn hP1 hD1 hk1
  have hP : va_P (dC, dI) vwCl [(op, .inr (10, oX10 ot on dn rd oc d o si w se nb hi p_status oe ih mb p_imageStatus x_p)), (on, .inr (2, oX2 n_kind n_salt n_pace n_manner n_from n_to n_goal n_reach n_branches n_branch n_tally x_n)), (n_to, .inl (kI, 20, .inl f_n_to))] H := hPa
  have hD : va_D A [(op, .inr (10, oX10 ot on dn rd oc d o si w se nb hi p_status oe ih mb p_imageStatus x_p)), (on, .inr (2, oX2 n_kind n_salt n_pace n_manner n_from n_to n_goal n_reach n_branches n_branch n_tally x_n)), (n_to, .inl (kI, 20, .inl f_n_to))] := hDa
  clear hPa hDa
  refine W.widen (k := 0) (n := 0) (Nat.le_of_ble_eq_true rfl) (Nat.le_of_ble_eq_true rfl) ?_
  subst w6
  refine lv_aload_n hx hb dX10_same_18 rfl (lv_at hl 0 rfl) ?_
  refine va_get (D := (dC, dI)) (ci := 10) (v := .ref on) (C := RX10) (T := TX10) (N := 19) hx hb hts hin10 hown hK hP 0 rfl rfl 1 (Nat.le_of_ble_eq_true rfl) hw_0 (fun _ h9 => h9) rfl dX10_same_19 ?_
  refine lv_iload_n hx hb dX10_same_22 rfl (lv_at hl 2 rfl) ?_
  obtain ⟨hPc, hDc, hFc, hJn⟩ := cl_a (wc := [(on, .inr (2, oX2 n_kind n_salt n_pace n_manner n_from n_to n_goal n_reach n_branches n_branch n_tally x_n)), (n_to, .inl (kI, 20, .inl f_n_to))]) (wr := [(op, .inr (10, oX10 ot on dn rd oc d o si w se nb hi p_status oe ih mb p_imageStatus x_p))]) hP hD hS hA [1, 2] [0] rfl rfl (by decide +kernel)
  refine va_calli (va_runV (As := [.int p1]) (rest := [.int (rtrT f_n_to p0)]) ⟨hx, hb, hml, hown, hts⟩ (s2_routerOf_in l dC dI kB kI kJ kZ kC kS H.size on n_kind n_salt n_pace n_manner n_from n_to n_goal n_reach n_branches n_branch n_tally x_n f_n_to p1 (hx_n) (hf_n_to) (hp1) (hj2)) (cwV 1 hts gX10_same_X2_routerOf rfl rfl rfl (by decide +kernel) ⟨Nat.le_of_ble_eq_true rfl, Nat.le_of_ble_eq_true rfl⟩) ⟨fun a U g mk q => by obtain ⟨q0, q1, qP, qE, qD⟩ := q; exact ⟨q0, q1, qP, kE_call qE, qD⟩, va_recv hK hP (ci := 2) (q0 := 1) rfl rfl, fun U hU hW => ⟨rfl, by rw [hU], by rw [hU]; exact hPc, kE_warm hW hE, hDc.weaken (fun _ _ _ _ => trivial)⟩⟩ rfl rfl hl.1 rfl (lv_room (Nat.le_of_ble_eq_true rfl)) dX10_same_23 ⟨Nat.le_of_ble_eq_true rfl, Nat.le_of_ble_eq_true rfl⟩) hS (fun q _ h => hFc q h) hFc (fun r7 u t H locs ht hvm w8 hB hz1 hk1 hS => ?_)
  obtain ⟨hP1, hD1⟩ := hB
  try dsimp only at w8
  obtain ⟨hPa, hDa⟩ := hJn (w1 := [(on, .inr (2, oX2 n_kind n_salt n_pace n_manner n_from n_to n_goal n_reach n_branches n_branch n_tally x_n)), (n_to, .inl (kI, 20, .inl f_n_to))]) hk1 ht hP1 hD1
  clear hP hD hPc hDc hFc hJn hP1 hD1 hk1
  have hP : va_P (dC, dI) vwCl [(op, .inr (10, oX10 ot on dn rd oc d o si w se nb hi p_status oe ih mb p_imageStatus x_p)), (on, .inr (2, oX2 n_kind n_salt n_pace n_manner n_from n_to n_goal n_reach n_branches n_branch n_tally x_n)), (n_to, .inl (kI, 20, .inl f_n_to))] H := hPa
  have hD : va_D A [(op, .inr (10, oX10 ot on dn rd oc d o si w se nb hi p_status oe ih mb p_imageStatus x_p)), (on, .inr (2, oX2 n_kind n_salt n_pace n_manner n_from n_to n_goal n_reach n_branches n_branch n_tally x_n)), (n_to, .inl (kI, 20, .inl f_n_to))] := hDa
  clear hPa hDa
  refine W.widen (k := 0) (n := 0) (Nat.le_of_ble_eq_true rfl) (Nat.le_of_ble_eq_true rfl) ?_
  subst w8
  refine lv_icmp_ne (tgt := 33) hx hb dX10_same_26 rfl (fun c9 => ?_) (fun c9 => ?_)
  · refine lv_iconst (v := 0) hx hb dX10_same_33 ic_0 ?_
    have hP9 := hP
    have hD9 := hD
    exact W.iret (v := 0) hx hb hr (fun t ht hW => ⟨⟨0, (), rfl, (sm_0 c9).symm, by rw [ht]; exact hP9, hD9⟩, hS.F ht⟩) hS.2.2 dX10_same_34
  · refine lv_iconst (v := 1) hx hb dX10_same_29 ic_1 ?_
    refine lv_goto (tgt := 34) hx hb dX10_same_30 rfl ?_
    have hP9 := hP
    have hD9 := hD
    exact W.iret (v := 1) hx hb hr (fun t ht hW => ⟨⟨1, (), rfl, (sm_1 c9).symm, by rw [ht]; exact hP9, hD9⟩, hS.F ht⟩) hS.2.2 dX10_same_34
def rm_sL_same_in : Room := { frames := 3, cells := 0, slots := 0, locals := 64 }
set_option maxHeartbeats 4000000 in
set_option maxRecDepth 100000 in
theorem sL_same_in (l : Launch) (hst : l.stackTraces = false) (dC : Nat → ClassId) (dI : Nat → Nat → Nat) (kB kI kJ kZ kC kS : ClassId) (sz : Nat) (op : Nat) (ot : Nat) (on : Nat) (dn : Nat) (rd : Nat) (oc : Nat) (d : Nat) (o : Nat) (si : Nat) (w : Nat) (se : Nat) (nb : Nat) (hi : Nat) (p_status : Nat) (oe : Nat) (ih : Nat) (mb : Nat) (p_imageStatus : Nat) (x_p : Nat → Int32) (n_kind : Nat) (n_salt : Nat) (n_pace : Nat) (n_manner : Nat) (n_from : Nat) (n_to : Nat) (n_goal : Nat) (n_reach : Nat) (n_branches : Nat) (n_branch : Nat) (n_tally : Nat) (x_n : Nat → Int32) (f_n_to : Nat → Int32) (p0 : Int32) (p1 : Int32) (ou : Nat) (fo : Nat → Int64) (hx_n : fI lX2 hX2 x_n) (hf_n_to : fI (fun _ => 0) (fun _ => 11) f_n_to) (hp0 : iv 0 20 p0) (hp1 : iv 0 20 p1) (h0 : 0 < x_n 0) (hj1 : p0 ≤ x_n 1) (hj2 : p1 ≤ x_n 1) : Met l yL_same wsL_same rm_sL_same_in (va_Pc [.ref op, .int p0, .int p1, .ref ou] (fun U => U.heap.size = sz ∧ va_P (dC, dI) vwCl [(op, .inr (10, oX10 ot on dn rd oc d o si w se nb hi p_status oe ih mb p_imageStatus x_p)), (on, .inr (2, oX2 n_kind n_salt n_pace n_manner n_from n_to n_goal n_reach n_branches n_branch n_tally x_n)), (n_to, .inl (kI, 20, .inl f_n_to)), (ou, .inl (kJ, 1, .inr (.inl fo)))] U.heap ∧ kE dC dI kB kI kJ kZ kC kS U ∧ va_D (fun _ => True) [(op, .inr (10, oX10 ot on dn rd oc d o si w se nb hi p_status oe ih mb p_imageStatus x_p)), (on, .inr (2, oX2 n_kind n_salt n_pace n_manner n_from n_to n_goal n_reach n_branches n_branch n_tally x_n)), (n_to, .inl (kI, 20, .inl f_n_to)), (ou, .inl (kJ, 1, .inr (.inl fo)))] ∧ kX U ∧ kT (va_A [(op, .inr (10, oX10 ot on dn rd oc d o si w se nb hi p_status oe ih mb p_imageStatus x_p)), (on, .inr (2, oX2 n_kind n_salt n_pace n_manner n_from n_to n_goal n_reach n_branches n_branch n_tally x_n)), (n_to, .inl (kI, 20, .inl f_n_to)), (ou, .inl (kJ, 1, .inr (.inl fo)))] sz) U)) (va_Qi (fun (r : Int32) (_ : Unit) => r = 0) (fun _ t => ∃ (fo' : Nat → Int64), (fo' 0 = (smT (rtrT f_n_to p0) (rtrT f_n_to p1)).toInt64) ∧ va_P (dC, dI) vwCl [(op, .inr (10, oX10 ot on dn rd oc d o si w se nb hi p_status oe ih mb p_imageStatus x_p)), (on, .inr (2, oX2 n_kind n_salt n_pace n_manner n_from n_to n_goal n_reach n_branches n_branch n_tally x_n)), (n_to, .inl (kI, 20, .inl f_n_to)), (ou, .inl (kJ, 1, .inr (.inl fo')))] t.heap ∧ va_D (va_A [(op, .inr (10, oX10 ot on dn rd oc d o si w se nb hi p_status oe ih mb p_imageStatus x_p)), (on, .inr (2, oX2 n_kind n_salt n_pace n_manner n_from n_to n_goal n_reach n_branches n_branch n_tally x_n)), (n_to, .inl (kI, 20, .inl f_n_to)), (ou, .inl (kJ, 1, .inr (.inl fo)))] sz) [(op, .inr (10, oX10 ot on dn rd oc d o si w se nb hi p_status oe ih mb p_imageStatus x_p)), (on, .inr (2, oX2 n_kind n_salt n_pace n_manner n_from n_to n_goal n_reach n_branches n_branch n_tally x_n)), (n_to, .inl (kI, 20, .inl f_n_to)), (ou, .inl (kJ, 1, .inr (.inl fo')))]) (va_A [(op, .inr (10, oX10 ot on dn rd oc d o si w se nb hi p_status oe ih mb p_imageStatus x_p)), (on, .inr (2, oX2 n_kind n_salt n_pace n_manner n_from n_to n_goal n_reach n_branches n_branch n_tally x_n)), (n_to, .inl (kI, 20, .inl f_n_to)), (ou, .inl (kJ, 1, .inr (.inl fo)))] sz)) 0 0 (va_A [(op, .inr (10, oX10 ot on dn rd oc d o si w se nb hi p_status oe ih mb p_imageStatus x_p)), (on, .inr (2, oX2 n_kind n_salt n_pace n_manner n_from n_to n_goal n_reach n_branches n_branch n_tally x_n)), (n_to, .inl (kI, 20, .inl f_n_to)), (ou, .inl (kJ, 1, .inr (.inl fo)))] sz) := by
  refine va_MetW (cc := cL_same) (maxL := 5) (ret := (some .int)) (by decide) rfl ?_
  intro p e s m args0 below meth c s₁ B hml hv
  obtain ⟨hargs, hsz, hP, hE, hD0, hXs, hT⟩ := hv
  have hx := B.exec
  have hb := B.bytes
  have hr := B.returns
  have hts := atoms_spec (ws := wsL_same) B.pre
  have hown : s.vm.findClass RL = some m.cls := findClass_of_methodNamed B.named
  have hlocks := B.notSynchronized
  have hK := hE.1
  have hin10 : ∀ w ∈ wsX100, w ∈ wsL_same := fun _ h9 => List.mem_cons_of_mem _ (List.mem_append_left _ (List.mem_append_left _ (List.mem_append_right _ h9)))
  have hin2 : ∀ w ∈ wsX20, w ∈ wsL_same := fun _ h9 => List.mem_cons_of_mem _ (List.mem_append_left _ (List.mem_append_right _ h9))
  subst hsz
  have hD := hD0.self (sz := s.heap.size)
  generalize hAe : va_A [(op, .inr (10, oX10 ot on dn rd oc d o si w se nb hi p_status oe ih mb p_imageStatus x_p)), (on, .inr (2, oX2 n_kind n_salt n_pace n_manner n_from n_to n_goal n_reach n_branches n_branch n_tally x_n)), (n_to, .inl (kI, 20, .inl f_n_to)), (ou, .inl (kJ, 1, .inr (.inl fo)))] s.heap.size = A at hD hT ⊢
  have hA : ∀ q : Nat, s.heap.size ≤ q → A q := fun q h => by rw [← hAe]; exact Or.inr h
  have hS : va_S A s.heap s.heap [] := va_S.rf
  have hP : va_P (dC, dI) vwCl [(op, .inr (10, oX10 ot on dn rd oc d o si w se nb hi p_status oe ih mb p_imageStatus x_p)), (on, .inr (2, oX2 n_kind n_salt n_pace n_manner n_from n_to n_goal n_reach n_branches n_branch n_tally x_n)), (n_to, .inl (kI, 20, .inl f_n_to)), (ou, .inl (kJ, 1, .inr (.inl fo)))] s.heap := hP
  have hl := lv_entry ([.ref op, .int p0, .int p1, .ref ou]) (n := 5) (Nat.le_of_ble_eq_true rfl)
  have hla : entryFrame m args0 5 = entryFrame m ([.ref op, .int p0, .int p1, .ref ou] : List Value).toArray 5 := by rw [hargs]
  rw [hla, lg_entry_eq]
  generalize (lg_sl ([.ref op, .int p0, .int p1, .ref ou]) ++ List.replicate (5 - (lg_sl ([.ref op, .int p0, .int p1, .ref ou])).length) Slot.unset).toArray = ls at hl ⊢
  have hl : lv_has ls 5 [(0, .ref op), (1, .int p0), (2, .int p1), (3, .ref ou)] := hl
  refine lv_aload_n hx hb dL_same_0 rfl (lv_at hl 3 rfl) ?_
  refine lv_iconst (v := 0) hx hb dL_same_1 ic_0 ?_
  refine lv_aload_n hx hb dL_same_2 rfl (lv_at hl 0 rfl) ?_
  refine lv_iload_n hx hb dL_same_3 rfl (lv_at hl 1 rfl) ?_
  refine lv_iload_n hx hb dL_same_4 rfl (lv_at hl 2 rfl) ?_
  obtain ⟨hPc, hDc, hFc, hJn⟩ := cl_a (wc := [(op, .inr (10, oX10 ot on dn rd oc d o si w se nb hi p_status oe ih mb p_imageStatus x_p)), (on, .inr (2, oX2 n_kind n_salt n_pace n_manner n_from n_to n_goal n_reach n_branches n_branch n_tally x_n)), (n_to, .inl (kI, 20, .inl f_n_to))]) (wr := [(ou, .inl (kJ, 1, .inr (.inl fo)))]) hP hD hS hA [0, 1, 2] [3] rfl rfl (by decide +kernel)
  refine va_calli (va_runV (As := [.int p0, .int p1]) (rest := [.int 0, .ref ou]) ⟨hx, hb, hml, hown, hts⟩ (s10_same_in l dC dI kB kI kJ kZ kC kS s.heap.size op ot on dn rd oc d o si w se nb hi p_status oe ih mb p_imageStatus x_p n_kind n_salt n_pace n_manner n_from n_to n_goal n_reach n_branches n_branch n_tally x_n f_n_to p0 p1 (hx_n) (hf_n_to) (hp0) (hp1) (h0) (hj1) (hj2)) (cwV 2 hts gL_same_X10_same rfl rfl rfl (by decide +kernel) ⟨Nat.le_of_ble_eq_true rfl, Nat.le_of_ble_eq_true rfl⟩) ⟨fun a U g mk q => by obtain ⟨q0, q1, qP, qE, qD⟩ := q; exact ⟨q0, q1, qP, kE_call qE, qD⟩, va_recv hK hP (ci := 10) (q0 := 0) rfl rfl, fun U hU hW => ⟨rfl, by rw [hU], by rw [hU]; exact hPc, kE_warm hW hE, hDc.weaken (fun _ _ _ _ => trivial)⟩⟩ rfl rfl hl.1 rfl (lv_room (Nat.le_of_ble_eq_true rfl)) dL_same_5 ⟨Nat.le_of_ble_eq_true rfl, Nat.le_of_ble_eq_true rfl⟩) hS (fun q _ h => hFc q h) hFc (fun r1 u t H locs ht hvm w2 hB hz1 hk1 hS => ?_)
  obtain ⟨hP1, hD1⟩ := hB
  try dsimp only at w2
  obtain ⟨hPa, hDa⟩ := hJn (w1 := [(op, .inr (10, oX10 ot on dn rd oc d o si w se nb hi p_status oe ih mb p_imageStatus x_p)), (on, .inr (2, oX2 n_kind n_salt n_pace n_manner n_from n_to n_goal n_reach n_branches n_branch n_tally x_n)), (n_to, .inl (kI, 20, .inl f_n_to))]) hk1 ht hP1 hD1
  clear hP hD hPc hDc hFc hJn hP1 hD1 hk1
  have hP : va_P (dC, dI) vwCl [(ou, .inl (kJ, 1, .inr (.inl fo))), (op, .inr (10, oX10 ot on dn rd oc d o si w se nb hi p_status oe ih mb p_imageStatus x_p)), (on, .inr (2, oX2 n_kind n_salt n_pace n_manner n_from n_to n_goal n_reach n_branches n_branch n_tally x_n)), (n_to, .inl (kI, 20, .inl f_n_to))] H := hPa
  have hD : va_D A [(ou, .inl (kJ, 1, .inr (.inl fo))), (op, .inr (10, oX10 ot on dn rd oc d o si w se nb hi p_status oe ih mb p_imageStatus x_p)), (on, .inr (2, oX2 n_kind n_salt n_pace n_manner n_from n_to n_goal n_reach n_branches n_branch n_tally x_n)), (n_to, .inl (kI, 20, .inl f_n_to))] := hDa
  clear hPa hDa
  refine W.widen (k := 0) (n := 0) (Nat.le_of_ble_eq_true rfl) (Nat.le_of_ble_eq_true rfl) ?_
  subst w2
  refine lv_i2l (v := (smT (rtrT f_n_to p0) (rtrT f_n_to p1)).toInt64) hx hb dL_same_8 rfl ?_
  refine va_last hx hb hK hP hD hS 0 2 rfl rfl (vp_in_nI (n := 0) (by decide) (by decide)) dL_same_9 (fun H locs hPa hDa hS => ?_)
  clear hP hD
  have hP : va_P (dC, dI) vwCl [(ou, .inl (kJ, 1, .inr (.inl (vp_updL fo 0 ((smT (rtrT f_n_to p0) (rtrT f_n_to p1)).toInt64))))), (op, .inr (10, oX10 ot on dn rd oc d o si w se nb hi p_status oe ih mb p_imageStatus x_p)), (on, .inr (2, oX2 n_kind n_salt n_pace n_manner n_from n_to n_goal n_reach n_branches n_branch n_tally x_n)), (n_to, .inl (kI, 20, .inl f_n_to))] H := hPa
  have hD : va_D A [(ou, .inl (kJ, 1, .inr (.inl (vp_updL fo 0 ((smT (rtrT f_n_to p0) (rtrT f_n_to p1)).toInt64))))), (op, .inr (10, oX10 ot on dn rd oc d o si w se nb hi p_status oe ih mb p_imageStatus x_p)), (on, .inr (2, oX2 n_kind n_salt n_pace n_manner n_from n_to n_goal n_reach n_branches n_branch n_tally x_n)), (n_to, .inl (kI, 20, .inl f_n_to))] := hDa
  clear hPa hDa
  refine lv_goto (tgt := 17) hx hb dL_same_10 rfl ?_
  refine lv_iconst (v := 0) hx hb dL_same_17 ic_0 ?_
  have hPD9 := cl_s (wc := [(op, .inr (10, oX10 ot on dn rd oc d o si w se nb hi p_status oe ih mb p_imageStatus x_p)), (on, .inr (2, oX2 n_kind n_salt n_pace n_manner n_from n_to n_goal n_reach n_branches n_branch n_tally x_n)), (n_to, .inl (kI, 20, .inl f_n_to)), (ou, .inl (kJ, 1, .inr (.inl (vp_updL fo 0 ((smT (rtrT f_n_to p0) (rtrT f_n_to p1)).toInt64)))))]) hP hD [1, 2, 3, 0] rfl (by decide +kernel)
  have hP9 := hPD9.1
  have hD9 := hPD9.2
  exact W.iret (v := 0) hx hb hr (fun t ht hW => ⟨⟨0, (), rfl, rfl, vp_updL fo 0 ((smT (rtrT f_n_to p0) (rtrT f_n_to p1)).toInt64), (show (vp_updL fo 0 ((smT (rtrT f_n_to p0) (rtrT f_n_to p1)).toInt64)) 0 = (smT (rtrT f_n_to p0) (rtrT f_n_to p1)).toInt64 from rfl), by rw [ht]; exact hP9, hD9⟩, hS.F ht⟩) hS.2.2 dL_same_18
def rm_s11_isIn_lo : Room := { frames := 0, cells := 0, slots := 0, locals := 0 }
set_option maxHeartbeats 4000000 in
set_option maxRecDepth 100000 in
theorem s11_isIn_lo (l : Launch) (dC : Nat → ClassId) (dI : Nat → Nat → Nat) (kB kI kJ kZ kC kS : ClassId) (sz : Nat) (p0 : Int32) (p2 : Int32) (hp0 : iv (-2147483648) (-1) p0) : Met l yX11_isIn wsX11_isIn rm_s11_isIn_lo (va_Pc [.int p0, .int 0, .int p2] (fun U => U.heap.size = sz ∧ va_P (dC, dI) vwCl [] U.heap ∧ kE dC dI kB kI kJ kZ kC kS U ∧ va_D (fun _ => True) [])) (va_Qi (fun (r : Int32) (_ : Unit) => iv 0 0 r) (fun _ t => va_P (dC, dI) vwCl [] t.heap ∧ va_D (va_A [] sz) []) (va_A [] sz)) 0 0 (va_A [] sz) := by
  refine Met.ofW (cc := cX11_isIn) (maxL := 3) (ret := (some .boolean)) (by decide) rfl ?_
  intro p e s m args0 below meth c s₁ B hml hv
  obtain ⟨hargs, hsz, hP, hE, hD0⟩ := hv
  have hx := B.exec
  have hb := B.bytes
  have hr := B.returns
  have hts := atoms_spec (ws := wsX11_isIn) B.pre
  have hown : s.vm.findClass RX11 = some m.cls := findClass_of_methodNamed B.named
  have hlocks := B.notSynchronized
  have hK := hE.1
  subst hsz
  have hD := hD0.self (sz := s.heap.size)
  generalize hAe : va_A [] s.heap.size = A at hD ⊢
  have hA : ∀ q : Nat, s.heap.size ≤ q → A q := fun q h => by rw [← hAe]; exact Or.inr h
  have hS : va_S A s.heap s.heap [] := va_S.rf
  have hP : va_P (dC, dI) vwCl [] s.heap := hP
  have hl := lv_entry ([.int p0, .int 0, .int p2]) (n := 3) (Nat.le_of_ble_eq_true rfl)
  have hla : entryFrame m args0 3 = entryFrame m ([.int p0, .int 0, .int p2] : List Value).toArray 3 := by rw [hargs]
  rw [hla, lg_entry_eq]
  generalize (lg_sl ([.int p0, .int 0, .int p2]) ++ List.replicate (3 - (lg_sl ([.int p0, .int 0, .int p2])).length) Slot.unset).toArray = ls at hl ⊢
  have hl : lv_has ls 3 [(0, .int p0), (1, .int 0), (2, .int p2)] := hl
  refine lv_iload_n hx hb dX11_isIn_0 rfl (lv_at hl 0 rfl) ?_
  refine lv_iload_n hx hb dX11_isIn_1 rfl (lv_at hl 1 rfl) ?_
  refine lv_icmp_lt (tgt := 14) hx hb dX11_isIn_2 rfl (fun _ => ?_) (fun c9 => absurd (iv_lt hp0 ivk_0 (by decide)) c9)
  refine lv_iconst (v := 0) hx hb dX11_isIn_14 ic_0 ?_
  have hP9 := hP
  have hD9 := hD
  exact W.zret (v := 0) (ty := .boolean) hx hb hr rfl (fun t ht hW => ⟨⟨0, (), rfl, ivk_0, by rw [ht]; exact hP9, hD9⟩, hS.F ht⟩) hS.2.2 dX11_isIn_15
