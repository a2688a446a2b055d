def rm_s10_mustBeAddress_in : Room := { frames := 1, cells := 0, slots := 0, locals := 21 }
set_option maxHeartbeats 4000000 in
set_option maxRecDepth 100000 in
theorem s10_mustBeAddress_in (l : Launch) (dC : Nat → ClassId) (dI : Nat → Nat → Nat) (kB kI kJ kZ kC kS : ClassId) (sz : Nat) (op : Nat) (ot : Nat) (on : Nat) (dn : Nat) (rd : Nat) (oc : Nat) (d : Nat) (o : Nat) (si : Nat) (w : Nat) (se : Nat) (nb : Nat) (hi : Nat) (p_status : Nat) (oe : Nat) (ih : Nat) (mb : Nat) (p_imageStatus : Nat) (x_p : Nat → Int32) (n_kind : Nat) (n_salt : Nat) (n_pace : Nat) (n_manner : Nat) (n_from : Nat) (n_to : Nat) (n_goal : Nat) (n_reach : Nat) (n_branches : Nat) (n_branch : Nat) (n_tally : Nat) (x_n : Nat → Int32) (p0 : Int32) (hx_n : fI lX2 hX2 x_n) (hp0 : iv 0 20 p0) (h0 : 0 < x_n 0) (hj : p0 ≤ x_n 1) : Met l yX10_mustBeAddress wsX10_mustBeAddress rm_s10_mustBeAddress_in (va_Pc [.ref op, .int p0] (fun U => U.heap.size = sz ∧ va_P (dC, dI) vwCl [(op, .inr (10, oX10 ot on dn rd oc d o si w se nb hi p_status oe ih mb p_imageStatus x_p)), (on, .inr (2, oX2 n_kind n_salt n_pace n_manner n_from n_to n_goal n_reach n_branches n_branch n_tally x_n))] U.heap ∧ kE dC dI kB kI kJ kZ kC kS U ∧ va_D (fun _ => True) [(op, .inr (10, oX10 ot on dn rd oc d o si w se nb hi p_status oe ih mb p_imageStatus x_p)), (on, .inr (2, oX2 n_kind n_salt n_pace n_manner n_from n_to n_goal n_reach n_branches n_branch n_tally x_n))])) (va_Qv (fun (_ : Unit) => True) (fun _ t => va_P (dC, dI) vwCl [(op, .inr (10, oX10 ot on dn rd oc d o si w se nb hi p_status oe ih mb p_imageStatus x_p)), (on, .inr (2, oX2 n_kind n_salt n_pace n_manner n_from n_to n_goal n_reach n_branches n_branch n_tally x_n))] t.heap ∧ va_D (va_A [(op, .inr (10, oX10 ot on dn rd oc d o si w se nb hi p_status oe ih mb p_imageStatus x_p)), (on, .inr (2, oX2 n_kind n_salt n_pace n_manner n_from n_to n_goal n_reach n_branches n_branch n_tally x_n))] sz) [(op, .inr (10, oX10 ot on dn rd oc d o si w se nb hi p_status oe ih mb p_imageStatus x_p)), (on, .inr (2, oX2 n_kind n_salt n_pace n_manner n_from n_to n_goal n_reach n_branches n_branch n_tally x_n))]) (va_A [(op, .inr (10, oX10 ot on dn rd oc d o si w se nb hi p_status oe ih mb p_imageStatus x_p)), (on, .inr (2, oX2 n_kind n_salt n_pace n_manner n_from n_to n_goal n_reach n_branches n_branch n_tally x_n))] sz)) 0 0 (va_A [(op, .inr (10, oX10 ot on dn rd oc d o si w se nb hi p_status oe ih mb p_imageStatus x_p)), (on, .inr (2, oX2 n_kind n_salt n_pace n_manner n_from n_to n_goal n_reach n_branches n_branch n_tally x_n))] sz) := by
  refine Met.ofW (cc := cX10_mustBeAddress) (maxL := 2) (ret := none) (by decide) rfl ?_
  intro p e s m args0 below meth c s₁ B hml hv
  obtain ⟨hargs, hsz, hP, hE, hD0⟩ := hv
  have hx := B.exec
  have hb := B.bytes
  have hr := B.returns
  have hts := atoms_spec (ws := wsX10_mustBeAddress) B.pre
  have hown : s.vm.findClass RX10 = some m.cls := findClass_of_methodNamed B.named
  have hlocks := B.notSynchronized
  have hK := hE.1
  have hin10 : ∀ w ∈ wsX100, w ∈ wsX10_mustBeAddress := fun _ h9 => List.mem_cons_of_mem _ (List.mem_append_left _ (List.mem_append_left _ (List.mem_append_right _ h9)))
  have hin2 : ∀ w ∈ wsX20, w ∈ wsX10_mustBeAddress := fun _ h9 => List.mem_cons_of_mem _ (List.mem_append_left _ (List.mem_append_right _ h9))
  have hw_0 := hts (.fieldLink RX10 19 "PathProber" "told" "LPathProber$Net;") (List.mem_of_getElem? (i := 3) rfl)
  subst hsz
  have hD := hD0.self (sz := s.heap.size)
  generalize hAe : va_A [(op, .inr (10, oX10 ot on dn rd oc d o si w se nb hi p_status oe ih mb p_imageStatus x_p)), (on, .inr (2, oX2 n_kind n_salt n_pace n_manner n_from n_to n_goal n_reach n_branches n_branch n_tally x_n))] s.heap.size = A at hD ⊢
  have hA : ∀ q : Nat, s.heap.size ≤ q → A q := fun q h => by rw [← hAe]; exact Or.inr h
  have hS : va_S A s.heap s.heap [] := va_S.rf
  have hP : va_P (dC, dI) vwCl [(op, .inr (10, oX10 ot on dn rd oc d o si w se nb hi p_status oe ih mb p_imageStatus x_p)), (on, .inr (2, oX2 n_kind n_salt n_pace n_manner n_from n_to n_goal n_reach n_branches n_branch n_tally x_n))] s.heap := hP
  have hl := lv_entry ([.ref op, .int p0]) (n := 2) (Nat.le_of_ble_eq_true rfl)
  have hla : entryFrame m args0 2 = entryFrame m ([.ref op, .int p0] : List Value).toArray 2 := by rw [hargs]
  rw [hla, lg_entry_eq]
  generalize (lg_sl ([.ref op, .int p0]) ++ List.replicate (2 - (lg_sl ([.ref op, .int p0])).length) Slot.unset).toArray = ls at hl ⊢
  have hl : lv_has ls 2 [(0, .ref op), (1, .int p0)] := hl
  refine lv_aload_n hx hb dX10_mustBeAddress_0 rfl (lv_at hl 0 rfl) ?_
  refine va_get (D := (dC, dI)) (ci := 10) (v := .ref on) (C := RX10) (T := TX10) (N := 19) hx hb hts hin10 hown hK hP 0 rfl rfl 1 (Nat.le_of_ble_eq_true rfl) hw_0 (fun _ h9 => h9) rfl dX10_mustBeAddress_1 ?_
  refine lv_iload_n hx hb dX10_mustBeAddress_4 rfl (lv_at hl 1 rfl) ?_
  obtain ⟨hPc, hDc, hFc, hJn⟩ := cl_a (wc := [(on, .inr (2, oX2 n_kind n_salt n_pace n_manner n_from n_to n_goal n_reach n_branches n_branch n_tally x_n))]) (wr := [(op, .inr (10, oX10 ot on dn rd oc d o si w se nb hi p_status oe ih mb p_imageStatus x_p))]) hP hD hS hA [1] [0] rfl rfl (by decide +kernel)
  refine va_calli (va_runV (As := [.int p0]) (rest := []) ⟨hx, hb, hml, hown, hts⟩ (s2_hasAddress_in l dC dI kB kI kJ kZ kC kS s.heap.size on n_kind n_salt n_pace n_manner n_from n_to n_goal n_reach n_branches n_branch n_tally x_n p0 (hx_n) (hp0) (h0) (hj)) (cwV 1 hts gX10_mustBeAddress_X2_hasAddress rfl rfl rfl (by decide +kernel) ⟨Nat.le_of_ble_eq_true rfl, Nat.le_of_ble_eq_true rfl⟩) ⟨fun a U g mk q => by obtain ⟨q0, q1, qP, qE, qD⟩ := q; exact ⟨q0, q1, qP, kE_call qE, qD⟩, va_recv hK hP (ci := 2) (q0 := 1) rfl rfl, fun U hU hW => ⟨rfl, by rw [hU], by rw [hU]; exact hPc, kE_warm hW hE, hDc.weaken (fun _ _ _ _ => trivial)⟩⟩ rfl rfl hl.1 rfl (lv_room (Nat.le_of_ble_eq_true rfl)) dX10_mustBeAddress_5 ⟨Nat.le_of_ble_eq_true rfl, Nat.le_of_ble_eq_true rfl⟩) hS (fun q _ h => hFc q h) hFc (fun r1 u t H locs ht hvm w2 hB hz1 hk1 hS => ?_)
  obtain ⟨hP1, hD1⟩ := hB
  try dsimp only at w2
  obtain ⟨hPa, hDa⟩ := hJn (w1 := [(on, .inr (2, oX2 n_kind n_salt n_pace n_manner n_from n_to n_goal n_reach n_branches n_branch n_tally x_n))]) hk1 ht hP1 hD1
  clear hP hD hPc hDc hFc hJn hP1 hD1 hk1
  have hP : va_P (dC, dI) vwCl [(op, .inr (10, oX10 ot on dn rd oc d o si w se nb hi p_status oe ih mb p_imageStatus x_p)), (on, .inr (2, oX2 n_kind n_salt n_pace n_manner n_from n_to n_goal n_reach n_branches n_branch n_tally x_n))] H := hPa
  have hD : va_D A [(op, .inr (10, oX10 ot on dn rd oc d o si w se nb hi p_status oe ih mb p_imageStatus x_p)), (on, .inr (2, oX2 n_kind n_salt n_pace n_manner n_from n_to n_goal n_reach n_branches n_branch n_tally x_n))] := hDa
  clear hPa hDa
  refine W.widen (k := 0) (n := 0) (Nat.le_of_ble_eq_true rfl) (Nat.le_of_ble_eq_true rfl) ?_
  obtain rfl : r1 = 1 := iv_one w2 (by decide)
  refine lv_if_ne (tgt := 22) hx hb dX10_mustBeAddress_8 rfl (fun _ => ?_) (fun c9 => absurd c9 (by decide))
  have hP9 := hP
  have hD9 := hD
  exact W.vret hx hb hr (fun t ht hW => ⟨⟨(), rfl, trivial, by rw [ht]; exact hP9, hD9⟩, hS.F ht⟩) hS.2.2 dX10_mustBeAddress_22
def rm_s2_routerOf_in : Room := { frames := 0, cells := 0, slots := 0, locals := 0 }
set_option maxHeartbeats 4000000 in
set_option maxRecDepth 100000 in
theorem s2_routerOf_in (l : Launch) (dC : Nat → ClassId) (dI : Nat → Nat → Nat) (kB kI kJ kZ kC kS : ClassId) (sz : Nat) (on : Nat) (n_kind : Nat) (n_salt : Nat) (n_pace : Nat) (n_manner : Nat) (n_from : Nat) (n_to : Nat) (n_goal : Nat) (n_reach : Nat) (n_branches : Nat) (n_branch : Nat) (n_tally : Nat) (x_n : Nat → Int32) (f_n_to : Nat → Int32) (p0 : Int32) (hx_n : fI lX2 hX2 x_n) (hf_n_to : fI (fun _ => 0) (fun _ => 11) f_n_to) (hp0 : iv 0 20 p0) (hj : p0 ≤ x_n 1) : Met l yX2_routerOf wsX2_routerOf rm_s2_routerOf_in (va_Pc [.ref on, .int p0] (fun U => U.heap.size = sz ∧ va_P (dC, dI) vwCl [(on, .inr (2, oX2 n_kind n_salt n_pace n_manner n_from n_to n_goal n_reach n_branches n_branch n_tally x_n)), (n_to, .inl (kI, 20, .inl f_n_to))] U.heap ∧ kE dC dI kB kI kJ kZ kC kS U ∧ va_D (fun _ => True) [(on, .inr (2, oX2 n_kind n_salt n_pace n_manner n_from n_to n_goal n_reach n_branches n_branch n_tally x_n)), (n_to, .inl (kI, 20, .inl f_n_to))])) (va_Qi (fun (r : Int32) (_ : Unit) => r = rtrT f_n_to p0) (fun _ t => va_P (dC, dI) vwCl [(on, .inr (2, oX2 n_kind n_salt n_pace n_manner n_from n_to n_goal n_reach n_branches n_branch n_tally x_n)), (n_to, .inl (kI, 20, .inl f_n_to))] t.heap ∧ va_D (va_A [(on, .inr (2, oX2 n_kind n_salt n_pace n_manner n_from n_to n_goal n_reach n_branches n_branch n_tally x_n)), (n_to, .inl (kI, 20, .inl f_n_to))] sz) [(on, .inr (2, oX2 n_kind n_salt n_pace n_manner n_from n_to n_goal n_reach n_branches n_branch n_tally x_n)), (n_to, .inl (kI, 20, .inl f_n_to))]) (va_A [(on, .inr (2, oX2 n_kind n_salt n_pace n_manner n_from n_to n_goal n_reach n_branches n_branch n_tally x_n)), (n_to, .inl (kI, 20, .inl f_n_to))] sz)) 0 0 (va_A [(on, .inr (2, oX2 n_kind n_salt n_pace n_manner n_from n_to n_goal n_reach n_branches n_branch n_tally x_n)), (n_to, .inl (kI, 20, .inl f_n_to))] sz) := by
  refine Met.ofW (cc := cX2_routerOf) (maxL := 2) (ret := (some .int)) (by decide) rfl ?_
  intro p e s m args0 below meth c s₁ B hml hv
  obtain ⟨hargs, hsz, hP, hE, hD0⟩ := hv
  have hx := B.exec
  have hb := B.bytes
  have hr := B.returns
  have hts := atoms_spec (ws := wsX2_routerOf) B.pre
  have hown : s.vm.findClass RX2 = some m.cls := findClass_of_methodNamed B.named
  have hlocks := B.notSynchronized
  have hK := hE.1
  have hin2 : ∀ w ∈ wsX20, w ∈ wsX2_routerOf := fun _ h9 => List.mem_cons_of_mem _ (List.mem_append_right _ h9)
  have hw_0 := hts (.fieldLink RX2 37 "PathProber$Net" "links" "I") (List.mem_of_getElem? (i := 1) rfl)
  have hw_1 := hts (.fieldLink RX2 27 "PathProber$Net" "to" "[I") (List.mem_of_getElem? (i := 2) rfl)
  subst hsz
  have hD := hD0.self (sz := s.heap.size)
  generalize hAe : va_A [(on, .inr (2, oX2 n_kind n_salt n_pace n_manner n_from n_to n_goal n_reach n_branches n_branch n_tally x_n)), (n_to, .inl (kI, 20, .inl f_n_to))] s.heap.size = A at hD ⊢
  have hA : ∀ q : Nat, s.heap.size ≤ q → A q := fun q h => by rw [← hAe]; exact Or.inr h
  have hS : va_S A s.heap s.heap [] := va_S.rf
  have hP : va_P (dC, dI) vwCl [(on, .inr (2, oX2 n_kind n_salt n_pace n_manner n_from n_to n_goal n_reach n_branches n_branch n_tally x_n)), (n_to, .inl (kI, 20, .inl f_n_to))] s.heap := hP
  have hl := lv_entry ([.ref on, .int p0]) (n := 2) (Nat.le_of_ble_eq_true rfl)
  have hla : entryFrame m args0 2 = entryFrame m ([.ref on, .int p0] : List Value).toArray 2 := by rw [hargs]
  rw [hla, lg_entry_eq]
  generalize (lg_sl ([.ref on, .int p0]) ++ List.replicate (2 - (lg_sl ([.ref on, .int p0])).length) Slot.unset).toArray = ls at hl ⊢
  have hl : lv_has ls 2 [(0, .ref on), (1, .int p0)] := hl
  refine lv_iload_n hx hb dX2_routerOf_0 rfl (lv_at hl 1 rfl) ?_
  refine lv_if_le (tgt := 12) hx hb dX2_routerOf_1 rfl (fun c1 => ?_) (fun c1 => ?_)
  · have b2 : iv 0 0 p0 := iv_leL c1 hp0 ivk_0 (by decide) (by decide)
    refine lv_iconst (v := 0) hx hb dX2_routerOf_12 ic_0 ?_
    refine lv_goto (tgt := 24) hx hb dX2_routerOf_13 rfl ?_
    have hP9 := hP
    have hD9 := hD
    exact W.iret (v := 0) hx hb hr (fun t ht hW => ⟨⟨0, (), rfl, (rtr_0 c1).symm, by rw [ht]; exact hP9, hD9⟩, hS.F ht⟩) hS.2.2 dX2_routerOf_24
  · have b3 : iv 1 20 p0 := iv_ltR (Int32.not_le.mp c1) ivk_0 hp0 (by decide) (by decide)
    refine lv_iload_n hx hb dX2_routerOf_4 rfl (lv_at hl 1 rfl) ?_
    refine lv_aload_n hx hb dX2_routerOf_5 rfl (lv_at hl 0 rfl) ?_
    refine va_get (D := (dC, dI)) (ci := 2) (v := .int (x_n 1)) (C := RX2) (T := TX2) (N := 15) hx hb hts hin2 hown hK hP 0 rfl rfl 8 (Nat.le_of_ble_eq_true rfl) hw_0 (fun _ h9 => h9) rfl dX2_routerOf_6 ?_
    refine lv_icmp_le (tgt := 16) hx hb dX2_routerOf_9 rfl (fun _ => ?_) (fun c9 => absurd (hj) c9)
    refine lv_aload_n hx hb dX2_routerOf_16 rfl (lv_at hl 0 rfl) ?_
    refine va_get (D := (dC, dI)) (ci := 2) (v := .ref n_to) (C := RX2) (T := TX2) (N := 15) hx hb hts hin2 hown hK hP 0 rfl rfl 5 (Nat.le_of_ble_eq_true rfl) hw_1 (fun _ h9 => h9) rfl dX2_routerOf_17 ?_
    refine lv_iload_n hx hb dX2_routerOf_20 rfl (lv_at hl 1 rfl) ?_
    refine lv_iconst (v := 1) hx hb dX2_routerOf_21 ic_1 ?_
    refine lv_isub hx hb dX2_routerOf_22 ?_
    have b4 : iv 0 19 (p0 - 1) := iv_sub b3 ivk_1 (by decide) (by decide) (by decide) (by decide)
    refine va_iald hx hb hK hP 1 1 rfl rfl (iv_in b4 (by decide) (by decide)) dX2_routerOf_23 ?_
    have b5 : iv 0 11 (f_n_to (p0 - 1).toNatClampNeg) := hf_n_to _
    have hP9 := hP
    have hD9 := hD
    exact W.iret (v := f_n_to (p0 - 1).toNatClampNeg) hx hb hr (fun t ht hW => ⟨⟨f_n_to (p0 - 1).toNatClampNeg, (), rfl, (rtr_1 (Int32.not_le.mp c1)).symm, by rw [ht]; exact hP9, hD9⟩, hS.F ht⟩) hS.2.2 dX2_routerOf_24
def rm_s10_same_no : Room := { frames := 7, cells := 1, slots := 6, locals := 103 }
set_option maxHeartbeats 4000000 in
set_option maxRecDepth 100000 in
theorem s10_same_no (l : Launch) (hst : l.stackTraces = false) (dC : Nat → ClassId) (dI : Nat → Nat → Nat) (kB kI kJ kZ kC kS : ClassId) (sz : Nat) (op : Nat) (ot : Nat) (on : Nat) (dn : Nat) (rd : Nat) (oc : Nat) (d : Nat) (o : Nat) (si : Nat) (w : Nat) (se : Nat) (nb : Nat) (hi : Nat) (p_status : Nat) (oe : Nat) (ih : Nat) (mb : Nat) (p_imageStatus : Nat) (x_p : Nat → Int32) (n_kind : Nat) (n_salt : Nat) (n_pace : Nat) (n_manner : Nat) (n_from : Nat) (n_to : Nat) (n_goal : Nat) (n_reach : Nat) (n_branches : Nat) (n_branch : Nat) (n_tally : Nat) (x_n : Nat → Int32) (p0 : Int32) (p1 : Int32) (hx_n : fI lX2 hX2 x_n) (h0 : x_n 0 ≤ 0) : vx_Met l yX10_same wsX10_same rm_s10_same_no (va_Pc [.ref op, .int p0, .int p1] (fun U => U.heap.size = sz ∧ va_P (dC, dI) vwCl [(op, .inr (10, oX10 ot on dn rd oc d o si w se nb hi p_status oe ih mb p_imageStatus x_p)), (on, .inr (2, oX2 n_kind n_salt n_pace n_manner n_from n_to n_goal n_reach n_branches n_branch n_tally x_n))] U.heap ∧ kE dC dI kB kI kJ kZ kC kS U ∧ va_D (fun _ => True) [(op, .inr (10, oX10 ot on dn rd oc d o si w se nb hi p_status oe ih mb p_imageStatus x_p)), (on, .inr (2, oX2 n_kind n_salt n_pace n_manner n_from n_to n_goal n_reach n_branches n_branch n_tally x_n))] ∧ kX U ∧ kT (va_A [(op, .inr (10, oX10 ot on dn rd oc d o si w se nb hi p_status oe ih mb p_imageStatus x_p)), (on, .inr (2, oX2 n_kind n_salt n_pace n_manner n_from n_to n_goal n_reach n_branches n_branch n_tally x_n))] sz) U)) (va_Qi (fun (r : Int32) (_ : Unit) => False) (fun _ t => va_P (dC, dI) vwCl [(op, .inr (10, oX10 ot on dn rd oc d o si w se nb hi p_status oe ih mb p_imageStatus x_p)), (on, .inr (2, oX2 n_kind n_salt n_pace n_manner n_from n_to n_goal n_reach n_branches n_branch n_tally x_n))] t.heap ∧ va_D (va_A [(op, .inr (10, oX10 ot on dn rd oc d o si w se nb hi p_status oe ih mb p_imageStatus x_p)), (on, .inr (2, oX2 n_kind n_salt n_pace n_manner n_from n_to n_goal n_reach n_branches n_branch n_tally x_n))] sz) [(op, .inr (10, oX10 ot on dn rd oc d o si w se nb hi p_status oe ih mb p_imageStatus x_p)), (on, .inr (2, oX2 n_kind n_salt n_pace n_manner n_from n_to n_goal n_reach n_branches n_branch n_tally x_n))]) (va_A [(op, .inr (10, oX10 ot on dn rd oc d o si w se nb hi p_status oe ih mb p_imageStatus x_p)), (on, .inr (2, oX2 n_kind n_salt n_pace n_manner n_from n_to n_goal n_reach n_branches n_branch n_tally x_n))] sz)) (vx_X (fun (_ : Unit) => True) (fun (E : String) (_ : Unit) (t : State) => (E = "java/util/NoSuchElementException") ∧ va_P (dC, dI) vwCl [(op, .inr (10, oX10 ot on dn rd oc d o si w se nb hi p_status oe ih mb p_imageStatus x_p)), (on, .inr (2, oX2 n_kind n_salt n_pace n_manner n_from n_to n_goal n_reach n_branches n_branch n_tally x_n))] t.heap ∧ va_D (va_A [(op, .inr (10, oX10 ot on dn rd oc d o si w se nb hi p_status oe ih mb p_imageStatus x_p)), (on, .inr (2, oX2 n_kind n_salt n_pace n_manner n_from n_to n_goal n_reach n_branches n_branch n_tally x_n))] sz) [(op, .inr (10, oX10 ot on dn rd oc d o si w se nb hi p_status oe ih mb p_imageStatus x_p)), (on, .inr (2, oX2 n_kind n_salt n_pace n_manner n_from n_to n_goal n_reach n_branches n_branch n_tally x_n))]) (va_A [(op, .inr (10, oX10 ot on dn rd oc d o si w se nb hi p_status oe ih mb p_imageStatus x_p)), (on, .inr (2, oX2 n_kind n_salt n_pace n_manner n_from n_to n_goal n_reach n_branches n_branch n_tally x_n))] sz)) 1 6 (va_A [(op, .inr (10, oX10 ot on dn rd oc d o si w se nb hi p_status oe ih mb p_imageStatus x_p)), (on, .inr (2, oX2 n_kind n_salt n_pace n_manner n_from n_to n_goal n_reach n_branches n_branch n_tally x_n))] sz) := by
  refine vx_ofW (cc := cX10_same) (maxL := 3) (ret := (some .int)) (by decide) rfl ?_
  intro p e s m args0 below meth c s₁ B hml hexT hv
  obtain ⟨hargs, hsz, hP, hE, hD0, hXs, hT⟩ := hv
  have hx := B.exec
  have hb := B.bytes
  have hr := B.returns
  have hts := atoms_spec (ws := wsX10_same) B.pre
  have hown : s.vm.findClass RX10 = some m.cls := findClass_of_methodNamed B.named
  have hlocks := B.notSynchronized
  have hK := hE.1
  have hin10 : ∀ w ∈ wsX100, w ∈ wsX10_same := fun _ h9 => List.mem_cons_of_mem _ (List.mem_append_left _ (List.mem_append_left _ (List.mem_append_right _ h9)))
  have hin2 : ∀ w ∈ wsX20, w ∈ wsX10_same := fun _ h9 => List.mem_cons_of_mem _ (List.mem_append_left _ (List.mem_append_right _ h9))
  subst hsz
  have hD := hD0.self (sz := s.heap.size)
  generalize hAe : va_A [(op, .inr (10, oX10 ot on dn rd oc d o si w se nb hi p_status oe ih mb p_imageStatus x_p)), (on, .inr (2, oX2 n_kind n_salt n_pace n_manner n_from n_to n_goal n_reach n_branches n_branch n_tally x_n))] s.heap.size = A at hD hT ⊢
  have hA : ∀ q : Nat, s.heap.size ≤ q → A q := fun q h => by rw [← hAe]; exact Or.inr h
  have hS : va_S A s.heap s.heap [] := va_S.rf
  have hP : va_P (dC, dI) vwCl [(op, .inr (10, oX10 ot on dn rd oc d o si w se nb hi p_status oe ih mb p_imageStatus x_p)), (on, .inr (2, oX2 n_kind n_salt n_pace n_manner n_from n_to n_goal n_reach n_branches n_branch n_tally x_n))] s.heap := hP
  have hl := lv_entry ([.ref op, .int p0, .int p1]) (n := 3) (Nat.le_of_ble_eq_true rfl)
  have hla : entryFrame m args0 3 = entryFrame m ([.ref op, .int p0, .int p1] : List Value).toArray 3 := by rw [hargs]
  rw [hla, lg_entry_eq]
  generalize (lg_sl ([.ref op, .int p0, .int p1]) ++ List.replicate (3 - (lg_sl ([.ref op, .int p0, .int p1])).length) Slot.unset).toArray = ls at hl ⊢
  have hl : lv_has ls 3 [(0, .ref op), (1, .int p0), (2, .int p1)] := hl
  refine lv_aload_n hx hb dX10_same_0 rfl (lv_at hl 0 rfl) ?_
  refine lv_iload_n hx hb dX10_same_1 rfl (lv_at hl 1 rfl) ?_
  obtain ⟨hPc, hDc, hFc, hJn⟩ := cl_a (wc := [(op, .inr (10, oX10 ot on dn rd oc d o si w se nb hi p_status oe ih mb p_imageStatus x_p)), (on, .inr (2, oX2 n_kind n_salt n_pace n_manner n_from n_to n_goal n_reach n_branches n_branch n_tally x_n))]) (wr := []) hP hD hS hA [0, 1] [] rfl rfl (by decide +kernel)
  refine vx_callv (vx_runV (As := [.int p0]) (rest := []) ⟨hx, hb, hml, hown, hts⟩ (s10_mustBeAddress_no l hst dC dI kB kI kJ kZ kC kS s.heap.size op ot on dn rd oc d o si w se nb hi p_status oe ih mb p_imageStatus x_p n_kind n_salt n_pace n_manner n_from n_to n_goal n_reach n_branches n_branch n_tally x_n p0 (hx_n) (h0)) (cwV 1 hts gX10_same_X10_mustBeAddress rfl rfl rfl (by decide +kernel) ⟨Nat.le_of_ble_eq_true rfl, Nat.le_of_ble_eq_true rfl⟩) ⟨fun a U g mk q => by obtain ⟨q0, q1, qP, qE, qD, qX, qT⟩ := q; exact ⟨q0, q1, qP, kE_call qE, qD, kX_call qX, kT_call qT⟩, va_recv hK hP (ci := 10) (q0 := 0) rfl rfl, fun U hU hW => ⟨rfl, by rw [hU], by rw [hU]; exact hPc, kE_warm hW hE, hDc.weaken (fun _ _ _ _ => trivial), kX_warm hW hXs, kT_at hT hS hFc hW hU⟩⟩ rfl rfl hl.1 rfl (lv_room (Nat.le_of_ble_eq_true rfl)) dX10_same_2 ⟨Nat.le_of_ble_eq_true rfl, Nat.le_of_ble_eq_true rfl⟩) hS (fun q _ h => hFc q h) hFc (fun q _ h => hFc q h) (fun E ce q9 u t H locs ht hvm hpx hBX hz1 hk1 hS hc9 hv9 hcl9 => ?_) (fun u t H locs ht hvm w2 hB hz1 hk1 hS => ?_)
  · obtain ⟨hE9, hP1, hD1⟩ := hBX
    obtain ⟨hPa, hDa⟩ := hJn (w1 := [(op, .inr (10, oX10 ot on dn rd oc d o si w se nb hi p_status oe ih mb p_imageStatus x_p)), (on, .inr (2, oX2 n_kind n_salt n_pace n_manner n_from n_to n_goal n_reach n_branches n_branch n_tally x_n))]) hk1 ht hP1 hD1
    clear hP hD hPc hDc hFc hJn hP1 hD1 hk1
    have hP : va_P (dC, dI) vwCl [(op, .inr (10, oX10 ot on dn rd oc d o si w se nb hi p_status oe ih mb p_imageStatus x_p)), (on, .inr (2, oX2 n_kind n_salt n_pace n_manner n_from n_to n_goal n_reach n_branches n_branch n_tally x_n))] H := hPa
    have hD : va_D A [(op, .inr (10, oX10 ot on dn rd oc d o si w se nb hi p_status oe ih mb p_imageStatus x_p)), (on, .inr (2, oX2 n_kind n_salt n_pace n_manner n_from n_to n_goal n_reach n_branches n_branch n_tally x_n))] := hDa
    clear hPa hDa
    have hP9 := hP
    have hD9 := hD
    exact vx_out (fun x h9 => (hexT x h9).elim) hlocks hc9 hv9 hcl9 (fun t9 ht9 hvm9 => ⟨(), trivial, ⟨hE9, by rw [ht9]; exact hP9, hD9⟩, hS.F ht9⟩) hS.2.2 (Nat.le_of_ble_eq_true rfl) (Nat.le_of_ble_eq_true rfl)
  · exact w2.elim
