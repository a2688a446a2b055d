def rm_sL_link_whi : Room := { frames := 8, cells := 1, slots := 6, locals := 125 }
set_option maxHeartbeats 4000000 in
set_option maxRecDepth 100000 in
theorem sL_link_whi (l : Launch) (hst : l.stackTraces = false) (dC : Nat → ClassId) (dI : Nat → Nat → Nat) (kB kI kJ kZ kC kS : ClassId) (sz : Nat) (op : Nat) (ot : Nat) (on : Nat) (dn : Nat) (rd : Nat) (oc : Nat) (d : Nat) (o : Nat) (si : Nat) (w : Nat) (se : Nat) (nb : Nat) (hi : Nat) (p_status : Nat) (oe : Nat) (ih : Nat) (mb : Nat) (p_imageStatus : Nat) (x_p : Nat → Int32) (n_kind : Nat) (n_salt : Nat) (n_pace : Nat) (n_manner : Nat) (n_from : Nat) (n_to : Nat) (n_goal : Nat) (n_reach : Nat) (n_branches : Nat) (n_branch : Nat) (n_tally : Nat) (x_n : Nat → Int32) (p0 : Int32) (p1 : Int32) (ou : Nat) (hx_n : fI lX2 hX2 x_n) (hp0 : iv 0 19 p0) (hp1 : iv 2 2147483647 p1) (hc : p0 < x_n 1) : Met l yL_link wsL_link rm_sL_link_whi (va_Pc [.ref op, .int p0, .int p1, .ref ou] (fun U => U.heap.size = sz ∧ va_P (dC, dI) vwCl [(op, .inr (10, oX10 ot on dn rd oc d o si w se nb hi p_status oe ih mb p_imageStatus x_p)), (on, .inr (2, oX2 n_kind n_salt n_pace n_manner n_from n_to n_goal n_reach n_branches n_branch n_tally x_n))] U.heap ∧ kE dC dI kB kI kJ kZ kC kS U ∧ va_D (fun _ => True) [(op, .inr (10, oX10 ot on dn rd oc d o si w se nb hi p_status oe ih mb p_imageStatus x_p)), (on, .inr (2, oX2 n_kind n_salt n_pace n_manner n_from n_to n_goal n_reach n_branches n_branch n_tally x_n))] ∧ kX U ∧ kT (va_A [(op, .inr (10, oX10 ot on dn rd oc d o si w se nb hi p_status oe ih mb p_imageStatus x_p)), (on, .inr (2, oX2 n_kind n_salt n_pace n_manner n_from n_to n_goal n_reach n_branches n_branch n_tally x_n))] sz) U)) (va_Qi (fun (r : Int32) (_ : Unit) => iv 1 1 r) (fun _ t => va_P (dC, dI) vwCl [(op, .inr (10, oX10 ot on dn rd oc d o si w se nb hi p_status oe ih mb p_imageStatus x_p)), (on, .inr (2, oX2 n_kind n_salt n_pace n_manner n_from n_to n_goal n_reach n_branches n_branch n_tally x_n))] t.heap ∧ va_D (va_A [(op, .inr (10, oX10 ot on dn rd oc d o si w se nb hi p_status oe ih mb p_imageStatus x_p)), (on, .inr (2, oX2 n_kind n_salt n_pace n_manner n_from n_to n_goal n_reach n_branches n_branch n_tally x_n))] sz) [(op, .inr (10, oX10 ot on dn rd oc d o si w se nb hi p_status oe ih mb p_imageStatus x_p)), (on, .inr (2, oX2 n_kind n_salt n_pace n_manner n_from n_to n_goal n_reach n_branches n_branch n_tally x_n))]) (va_A [(op, .inr (10, oX10 ot on dn rd oc d o si w se nb hi p_status oe ih mb p_imageStatus x_p)), (on, .inr (2, oX2 n_kind n_salt n_pace n_manner n_from n_to n_goal n_reach n_branches n_branch n_tally x_n))] sz)) 1 6 (va_A [(op, .inr (10, oX10 ot on dn rd oc d o si w se nb hi p_status oe ih mb p_imageStatus x_p)), (on, .inr (2, oX2 n_kind n_salt n_pace n_manner n_from n_to n_goal n_reach n_branches n_branch n_tally x_n))] sz) := by
  refine va_MetW (cc := cL_link) (maxL := 5) (ret := (some .int)) (by decide) rfl ?_
  intro p e s m args0 below meth c s₁ B hml hv
  obtain ⟨hargs, hsz, hP, hE, hD0, hXs, hT⟩ := hv
  have hx := B.exec
  have hb := B.bytes
  have hr := B.returns
  have hts := atoms_spec (ws := wsL_link) B.pre
  have hown : s.vm.findClass RL = some m.cls := findClass_of_methodNamed B.named
  have hlocks := B.notSynchronized
  have hK := hE.1
  have hin10 : ∀ w ∈ wsX100, w ∈ wsL_link := fun _ h9 => List.mem_cons_of_mem _ (List.mem_append_left _ (List.mem_append_left _ (List.mem_append_right _ h9)))
  have hin2 : ∀ w ∈ wsX20, w ∈ wsL_link := fun _ h9 => List.mem_cons_of_mem _ (List.mem_append_left _ (List.mem_append_right _ h9))
  have hw_0 := hts (.classLink RL 18 "java/util/NoSuchElementException") (List.mem_of_getElem? (i := 1) rfl)
  subst hsz
  have hD := hD0.self (sz := s.heap.size)
  generalize hAe : va_A [(op, .inr (10, oX10 ot on dn rd oc d o si w se nb hi p_status oe ih mb p_imageStatus x_p)), (on, .inr (2, oX2 n_kind n_salt n_pace n_manner n_from n_to n_goal n_reach n_branches n_branch n_tally x_n))] s.heap.size = A at hD hT ⊢
  have hA : ∀ q : Nat, s.heap.size ≤ q → A q := fun q h => by rw [← hAe]; exact Or.inr h
  have hS : va_S A s.heap s.heap [] := va_S.rf
  have hP : va_P (dC, dI) vwCl [(op, .inr (10, oX10 ot on dn rd oc d o si w se nb hi p_status oe ih mb p_imageStatus x_p)), (on, .inr (2, oX2 n_kind n_salt n_pace n_manner n_from n_to n_goal n_reach n_branches n_branch n_tally x_n))] s.heap := hP
  have hl := lv_entry ([.ref op, .int p0, .int p1, .ref ou]) (n := 5) (Nat.le_of_ble_eq_true rfl)
  have hla : entryFrame m args0 5 = entryFrame m ([.ref op, .int p0, .int p1, .ref ou] : List Value).toArray 5 := by rw [hargs]
  rw [hla, lg_entry_eq]
  generalize (lg_sl ([.ref op, .int p0, .int p1, .ref ou]) ++ List.replicate (5 - (lg_sl ([.ref op, .int p0, .int p1, .ref ou])).length) Slot.unset).toArray = ls at hl ⊢
  have hl : lv_has ls 5 [(0, .ref op), (1, .int p0), (2, .int p1), (3, .ref ou)] := hl
  refine lv_aload_n hx hb dL_link_0 rfl (lv_at hl 3 rfl) ?_
  refine lv_iconst (v := 0) hx hb dL_link_1 ic_0 ?_
  refine lv_aload_n hx hb dL_link_2 rfl (lv_at hl 0 rfl) ?_
  refine lv_iload_n hx hb dL_link_3 rfl (lv_at hl 1 rfl) ?_
  refine lv_iload_n hx hb dL_link_4 rfl (lv_at hl 2 rfl) ?_
  obtain ⟨hPc, hDc, hFc, hJn⟩ := cl_a (wc := [(op, .inr (10, oX10 ot on dn rd oc d o si w se nb hi p_status oe ih mb p_imageStatus x_p)), (on, .inr (2, oX2 n_kind n_salt n_pace n_manner n_from n_to n_goal n_reach n_branches n_branch n_tally x_n))]) (wr := []) hP hD hS hA [0, 1] [] rfl rfl (by decide +kernel)
  refine vx_calli (vx_runV (As := [.int p0, .int p1]) (rest := [.int 0, .ref ou]) ⟨hx, hb, hml, hown, hts⟩ (s10_link_whi l hst dC dI kB kI kJ kZ kC kS s.heap.size op ot on dn rd oc d o si w se nb hi p_status oe ih mb p_imageStatus x_p n_kind n_salt n_pace n_manner n_from n_to n_goal n_reach n_branches n_branch n_tally x_n p0 p1 (hx_n) (hp0) (hp1) (hc)) (cwV 2 hts gL_link_X10_link rfl rfl rfl (by decide +kernel) ⟨Nat.le_of_ble_eq_true rfl, Nat.le_of_ble_eq_true rfl⟩) ⟨fun a U g mk q => by obtain ⟨q0, q1, qP, qE, qD, qX, qT⟩ := q; exact ⟨q0, q1, qP, kE_call qE, qD, kX_call qX, kT_call qT⟩, va_recv hK hP (ci := 10) (q0 := 0) rfl rfl, fun U hU hW => ⟨rfl, by rw [hU], by rw [hU]; exact hPc, kE_warm hW hE, hDc.weaken (fun _ _ _ _ => trivial), kX_warm hW hXs, kT_at hT hS hFc hW hU⟩⟩ rfl rfl hl.1 rfl (lv_room (Nat.le_of_ble_eq_true rfl)) dL_link_5 ⟨Nat.le_of_ble_eq_true rfl, Nat.le_of_ble_eq_true rfl⟩) hS (fun q _ h => hFc q h) hFc (fun q _ h => hFc q h) (fun E ce q9 u t H locs ht hvm hpx hBX hz1 hk1 hS hc9 hv9 hcl9 => ?_) (fun r1 u t H locs ht hvm w2 hB hz1 hk1 hS => ?_)
  · obtain ⟨hE9, hP1, hD1⟩ := hBX
    obtain ⟨hPa, hDa⟩ := hJn (w1 := [(op, .inr (10, oX10 ot on dn rd oc d o si w se nb hi p_status oe ih mb p_imageStatus x_p)), (on, .inr (2, oX2 n_kind n_salt n_pace n_manner n_from n_to n_goal n_reach n_branches n_branch n_tally x_n))]) hk1 ht hP1 hD1
    clear hP hD hPc hDc hFc hJn hP1 hD1 hk1
    have hP : va_P (dC, dI) vwCl [(op, .inr (10, oX10 ot on dn rd oc d o si w se nb hi p_status oe ih mb p_imageStatus x_p)), (on, .inr (2, oX2 n_kind n_salt n_pace n_manner n_from n_to n_goal n_reach n_branches n_branch n_tally x_n))] H := hPa
    have hD : va_D A [(op, .inr (10, oX10 ot on dn rd oc d o si w se nb hi p_status oe ih mb p_imageStatus x_p)), (on, .inr (2, oX2 n_kind n_salt n_pace n_manner n_from n_to n_goal n_reach n_branches n_branch n_tally x_n))] := hDa
    clear hPa hDa
    subst hE9
    have htab := vx_table (x := yL_link) B (hts (.codeWith yL_link cL_link 5 (some .int) [(0, 10, 13, 18)]) (List.mem_of_getElem? (i := 0) rfl))
    refine vx_catch (name := "java/util/NoSuchElementException") hown [] ⟨0, 10, 13, 18⟩ [] (htab.trans rfl) (fun z h => absurd h List.not_mem_nil) rfl (by decide) hw_0 (va_Nw.use rfl hXs.1) hc9 hv9 hcl9 ?_
    refine W.widen (k := 1) (n := 6) (Nat.le_of_ble_eq_true rfl) (Nat.le_of_ble_eq_true rfl) ?_
    refine W.eq (g2 := F0 m 13 ls [.ref q9]) rfl ?_
    refine lv_astore (lv' := [(4, .ref q9), (0, .ref op), (1, .int p0), (2, .int p1), (3, .ref ou)]) hx hb dL_link_13 hl (Nat.le_of_ble_eq_true rfl) rfl (fun ls hl => ?_)
    refine lv_iconst (v := 1) hx hb dL_link_15 ic_1 ?_
    have hP9 := hP
    have hD9 := hD
    exact W.iret (v := 1) hx hb hr (fun t ht hW => ⟨⟨1, (), rfl, ivk_1, by rw [ht]; exact hP9, hD9⟩, hS.F ht⟩) hS.2.2 dL_link_16
  · exact w2.elim
def rm_sL_link_w0 : Room := { frames := 3, cells := 0, slots := 0, locals := 64 }
set_option maxHeartbeats 4000000 in
set_option maxRecDepth 100000 in
theorem sL_link_w0 (l : Launch) (hst : l.stackTraces = false) (dC : Nat → ClassId) (dI : Nat → Nat → Nat) (kB kI kJ kZ kC kS : ClassId) (sz : Nat) (op : Nat) (ot : Nat) (on : Nat) (dn : Nat) (rd : Nat) (oc : Nat) (d : Nat) (o : Nat) (si : Nat) (w : Nat) (se : Nat) (nb : Nat) (hi : Nat) (p_status : Nat) (oe : Nat) (ih : Nat) (mb : Nat) (p_imageStatus : Nat) (x_p : Nat → Int32) (n_kind : Nat) (n_salt : Nat) (n_pace : Nat) (n_manner : Nat) (n_from : Nat) (n_to : Nat) (n_goal : Nat) (n_reach : Nat) (n_branches : Nat) (n_branch : Nat) (n_tally : Nat) (x_n : Nat → Int32) (f_n_from : Nat → Int32) (p0 : Int32) (ou : Nat) (fo : Nat → Int64) (hx_n : fI lX2 hX2 x_n) (hf_n_from : fI (fun _ => 0) (fun _ => 11) f_n_from) (hp0 : iv 0 19 p0) (hc : p0 < x_n 1) : Met l yL_link wsL_link rm_sL_link_w0 (va_Pc [.ref op, .int p0, .int 0, .ref ou] (fun U => U.heap.size = sz ∧ va_P (dC, dI) vwCl [(op, .inr (10, oX10 ot on dn rd oc d o si w se nb hi p_status oe ih mb p_imageStatus x_p)), (on, .inr (2, oX2 n_kind n_salt n_pace n_manner n_from n_to n_goal n_reach n_branches n_branch n_tally x_n)), (n_from, .inl (kI, 20, .inl f_n_from)), (ou, .inl (kJ, 1, .inr (.inl fo)))] U.heap ∧ kE dC dI kB kI kJ kZ kC kS U ∧ va_D (fun _ => True) [(op, .inr (10, oX10 ot on dn rd oc d o si w se nb hi p_status oe ih mb p_imageStatus x_p)), (on, .inr (2, oX2 n_kind n_salt n_pace n_manner n_from n_to n_goal n_reach n_branches n_branch n_tally x_n)), (n_from, .inl (kI, 20, .inl f_n_from)), (ou, .inl (kJ, 1, .inr (.inl fo)))] ∧ kX U ∧ kT (va_A [(op, .inr (10, oX10 ot on dn rd oc d o si w se nb hi p_status oe ih mb p_imageStatus x_p)), (on, .inr (2, oX2 n_kind n_salt n_pace n_manner n_from n_to n_goal n_reach n_branches n_branch n_tally x_n)), (n_from, .inl (kI, 20, .inl f_n_from)), (ou, .inl (kJ, 1, .inr (.inl fo)))] sz) U)) (va_Qi (fun (r : Int32) (_ : Unit) => r = 0) (fun _ t => ∃ (fo' : Nat → Int64), (fo' 0 = (f_n_from p0.toNatClampNeg).toInt64) ∧ va_P (dC, dI) vwCl [(op, .inr (10, oX10 ot on dn rd oc d o si w se nb hi p_status oe ih mb p_imageStatus x_p)), (on, .inr (2, oX2 n_kind n_salt n_pace n_manner n_from n_to n_goal n_reach n_branches n_branch n_tally x_n)), (n_from, .inl (kI, 20, .inl f_n_from)), (ou, .inl (kJ, 1, .inr (.inl fo')))] t.heap ∧ va_D (va_A [(op, .inr (10, oX10 ot on dn rd oc d o si w se nb hi p_status oe ih mb p_imageStatus x_p)), (on, .inr (2, oX2 n_kind n_salt n_pace n_manner n_from n_to n_goal n_reach n_branches n_branch n_tally x_n)), (n_from, .inl (kI, 20, .inl f_n_from)), (ou, .inl (kJ, 1, .inr (.inl fo)))] sz) [(op, .inr (10, oX10 ot on dn rd oc d o si w se nb hi p_status oe ih mb p_imageStatus x_p)), (on, .inr (2, oX2 n_kind n_salt n_pace n_manner n_from n_to n_goal n_reach n_branches n_branch n_tally x_n)), (n_from, .inl (kI, 20, .inl f_n_from)), (ou, .inl (kJ, 1, .inr (.inl fo')))]) (va_A [(op, .inr (10, oX10 ot on dn rd oc d o si w se nb hi p_status oe ih mb p_imageStatus x_p)), (on, .inr (2, oX2 n_kind n_salt n_pace n_manner n_from n_to n_goal n_reach n_branches n_branch n_tally x_n)), (n_from, .inl (kI, 20, .inl f_n_from)), (ou, .inl (kJ, 1, .inr (.inl fo)))] sz)) 0 0 (va_A [(op, .inr (10, oX10 ot on dn rd oc d o si w se nb hi p_status oe ih mb p_imageStatus x_p)), (on, .inr (2, oX2 n_kind n_salt n_pace n_manner n_from n_to n_goal n_reach n_branches n_branch n_tally x_n)), (n_from, .inl (kI, 20, .inl f_n_from)), (ou, .inl (kJ, 1, .inr (.inl fo)))] sz) := by
  refine va_MetW (cc := cL_link) (maxL := 5) (ret := (some .int)) (by decide) rfl ?_
  intro p e s m args0 below meth c s₁ B hml hv
  obtain ⟨hargs, hsz, hP, hE, hD0, hXs, hT⟩ := hv
  have hx := B.exec
  have hb := B.bytes
  have hr := B.returns
  have hts := atoms_spec (ws := wsL_link) B.pre
  have hown : s.vm.findClass RL = some m.cls := findClass_of_methodNamed B.named
  have hlocks := B.notSynchronized
  have hK := hE.1
  have hin10 : ∀ w ∈ wsX100, w ∈ wsL_link := fun _ h9 => List.mem_cons_of_mem _ (List.mem_append_left _ (List.mem_append_left _ (List.mem_append_right _ h9)))
  have hin2 : ∀ w ∈ wsX20, w ∈ wsL_link := fun _ h9 => List.mem_cons_of_mem _ (List.mem_append_left _ (List.mem_append_right _ h9))
  subst hsz
  have hD := hD0.self (sz := s.heap.size)
  generalize hAe : va_A [(op, .inr (10, oX10 ot on dn rd oc d o si w se nb hi p_status oe ih mb p_imageStatus x_p)), (on, .inr (2, oX2 n_kind n_salt n_pace n_manner n_from n_to n_goal n_reach n_branches n_branch n_tally x_n)), (n_from, .inl (kI, 20, .inl f_n_from)), (ou, .inl (kJ, 1, .inr (.inl fo)))] s.heap.size = A at hD hT ⊢
  have hA : ∀ q : Nat, s.heap.size ≤ q → A q := fun q h => by rw [← hAe]; exact Or.inr h
  have hS : va_S A s.heap s.heap [] := va_S.rf
  have hP : va_P (dC, dI) vwCl [(op, .inr (10, oX10 ot on dn rd oc d o si w se nb hi p_status oe ih mb p_imageStatus x_p)), (on, .inr (2, oX2 n_kind n_salt n_pace n_manner n_from n_to n_goal n_reach n_branches n_branch n_tally x_n)), (n_from, .inl (kI, 20, .inl f_n_from)), (ou, .inl (kJ, 1, .inr (.inl fo)))] s.heap := hP
  have hl := lv_entry ([.ref op, .int p0, .int 0, .ref ou]) (n := 5) (Nat.le_of_ble_eq_true rfl)
  have hla : entryFrame m args0 5 = entryFrame m ([.ref op, .int p0, .int 0, .ref ou] : List Value).toArray 5 := by rw [hargs]
  rw [hla, lg_entry_eq]
  generalize (lg_sl ([.ref op, .int p0, .int 0, .ref ou]) ++ List.replicate (5 - (lg_sl ([.ref op, .int p0, .int 0, .ref ou])).length) Slot.unset).toArray = ls at hl ⊢
  have hl : lv_has ls 5 [(0, .ref op), (1, .int p0), (2, .int 0), (3, .ref ou)] := hl
  refine lv_aload_n hx hb dL_link_0 rfl (lv_at hl 3 rfl) ?_
  refine lv_iconst (v := 0) hx hb dL_link_1 ic_0 ?_
  refine lv_aload_n hx hb dL_link_2 rfl (lv_at hl 0 rfl) ?_
  refine lv_iload_n hx hb dL_link_3 rfl (lv_at hl 1 rfl) ?_
  refine lv_iload_n hx hb dL_link_4 rfl (lv_at hl 2 rfl) ?_
  obtain ⟨hPc, hDc, hFc, hJn⟩ := cl_a (wc := [(op, .inr (10, oX10 ot on dn rd oc d o si w se nb hi p_status oe ih mb p_imageStatus x_p)), (on, .inr (2, oX2 n_kind n_salt n_pace n_manner n_from n_to n_goal n_reach n_branches n_branch n_tally x_n)), (n_from, .inl (kI, 20, .inl f_n_from))]) (wr := [(ou, .inl (kJ, 1, .inr (.inl fo)))]) hP hD hS hA [0, 1, 2] [3] rfl rfl (by decide +kernel)
  refine va_calli (va_runV (As := [.int p0, .int 0]) (rest := [.int 0, .ref ou]) ⟨hx, hb, hml, hown, hts⟩ (s10_link_w0 l dC dI kB kI kJ kZ kC kS s.heap.size op ot on dn rd oc d o si w se nb hi p_status oe ih mb p_imageStatus x_p n_kind n_salt n_pace n_manner n_from n_to n_goal n_reach n_branches n_branch n_tally x_n f_n_from p0 (hx_n) (hf_n_from) (hp0) (hc)) (cwV 2 hts gL_link_X10_link rfl rfl rfl (by decide +kernel) ⟨Nat.le_of_ble_eq_true rfl, Nat.le_of_ble_eq_true rfl⟩) ⟨fun a U g mk q => by obtain ⟨q0, q1, qP, qE, qD⟩ := q; exact ⟨q0, q1, qP, kE_call qE, qD⟩, va_recv hK hP (ci := 10) (q0 := 0) rfl rfl, fun U hU hW => ⟨rfl, by rw [hU], by rw [hU]; exact hPc, kE_warm hW hE, hDc.weaken (fun _ _ _ _ => trivial)⟩⟩ rfl rfl hl.1 rfl (lv_room (Nat.le_of_ble_eq_true rfl)) dL_link_5 ⟨Nat.le_of_ble_eq_true rfl, Nat.le_of_ble_eq_true rfl⟩) hS (fun q _ h => hFc q h) hFc (fun r1 u t H locs ht hvm w2 hB hz1 hk1 hS => ?_)
  obtain ⟨hP1, hD1⟩ := hB
  try dsimp only at w2
  obtain ⟨hPa, hDa⟩ := hJn (w1 := [(op, .inr (10, oX10 ot on dn rd oc d o si w se nb hi p_status oe ih mb p_imageStatus x_p)), (on, .inr (2, oX2 n_kind n_salt n_pace n_manner n_from n_to n_goal n_reach n_branches n_branch n_tally x_n)), (n_from, .inl (kI, 20, .inl f_n_from))]) hk1 ht hP1 hD1
  clear hP hD hPc hDc hFc hJn hP1 hD1 hk1
  have hP : va_P (dC, dI) vwCl [(ou, .inl (kJ, 1, .inr (.inl fo))), (op, .inr (10, oX10 ot on dn rd oc d o si w se nb hi p_status oe ih mb p_imageStatus x_p)), (on, .inr (2, oX2 n_kind n_salt n_pace n_manner n_from n_to n_goal n_reach n_branches n_branch n_tally x_n)), (n_from, .inl (kI, 20, .inl f_n_from))] H := hPa
  have hD : va_D A [(ou, .inl (kJ, 1, .inr (.inl fo))), (op, .inr (10, oX10 ot on dn rd oc d o si w se nb hi p_status oe ih mb p_imageStatus x_p)), (on, .inr (2, oX2 n_kind n_salt n_pace n_manner n_from n_to n_goal n_reach n_branches n_branch n_tally x_n)), (n_from, .inl (kI, 20, .inl f_n_from))] := hDa
  clear hPa hDa
  refine W.widen (k := 0) (n := 0) (Nat.le_of_ble_eq_true rfl) (Nat.le_of_ble_eq_true rfl) ?_
  subst w2
  refine lv_i2l (v := (f_n_from p0.toNatClampNeg).toInt64) hx hb dL_link_8 rfl ?_
  refine va_last hx hb hK hP hD hS 0 2 rfl rfl (vp_in_nI (n := 0) (by decide) (by decide)) dL_link_9 (fun H locs hPa hDa hS => ?_)
  clear hP hD
  have hP : va_P (dC, dI) vwCl [(ou, .inl (kJ, 1, .inr (.inl (vp_updL fo 0 ((f_n_from p0.toNatClampNeg).toInt64))))), (op, .inr (10, oX10 ot on dn rd oc d o si w se nb hi p_status oe ih mb p_imageStatus x_p)), (on, .inr (2, oX2 n_kind n_salt n_pace n_manner n_from n_to n_goal n_reach n_branches n_branch n_tally x_n)), (n_from, .inl (kI, 20, .inl f_n_from))] H := hPa
  have hD : va_D A [(ou, .inl (kJ, 1, .inr (.inl (vp_updL fo 0 ((f_n_from p0.toNatClampNeg).toInt64))))), (op, .inr (10, oX10 ot on dn rd oc d o si w se nb hi p_status oe ih mb p_imageStatus x_p)), (on, .inr (2, oX2 n_kind n_salt n_pace n_manner n_from n_to n_goal n_reach n_branches n_branch n_tally x_n)), (n_from, .inl (kI, 20, .inl f_n_from))] := hDa
  clear hPa hDa
  refine lv_goto (tgt := 17) hx hb dL_link_10 rfl ?_
  refine lv_iconst (v := 0) hx hb dL_link_17 ic_0 ?_
  have hPD9 := cl_s (wc := [(op, .inr (10, oX10 ot on dn rd oc d o si w se nb hi p_status oe ih mb p_imageStatus x_p)), (on, .inr (2, oX2 n_kind n_salt n_pace n_manner n_from n_to n_goal n_reach n_branches n_branch n_tally x_n)), (n_from, .inl (kI, 20, .inl f_n_from)), (ou, .inl (kJ, 1, .inr (.inl (vp_updL fo 0 ((f_n_from p0.toNatClampNeg).toInt64)))))]) hP hD [1, 2, 3, 0] rfl (by decide +kernel)
  have hP9 := hPD9.1
  have hD9 := hPD9.2
  exact W.iret (v := 0) hx hb hr (fun t ht hW => ⟨⟨0, (), rfl, rfl, vp_updL fo 0 ((f_n_from p0.toNatClampNeg).toInt64), (show (vp_updL fo 0 ((f_n_from p0.toNatClampNeg).toInt64)) 0 = (f_n_from p0.toNatClampNeg).toInt64 from rfl), by rw [ht]; exact hP9, hD9⟩, hS.F ht⟩) hS.2.2 dL_link_18
def rm_sL_link_w1 : Room := { frames := 3, cells := 0, slots := 0, locals := 64 }
set_option maxHeartbeats 4000000 in
set_option maxRecDepth 100000 in
theorem sL_link_w1 (l : Launch) (hst : l.stackTraces = false) (dC : Nat → ClassId) (dI : Nat → Nat → Nat) (kB kI kJ kZ kC kS : ClassId) (sz : Nat) (op : Nat) (ot : Nat) (on : Nat) (dn : Nat) (rd : Nat) (oc : Nat) (d : Nat) (o : Nat) (si : Nat) (w : Nat) (se : Nat) (nb : Nat) (hi : Nat) (p_status : Nat) (oe : Nat) (ih : Nat) (mb : Nat) (p_imageStatus : Nat) (x_p : Nat → Int32) (n_kind : Nat) (n_salt : Nat) (n_pace : Nat) (n_manner : Nat) (n_from : Nat) (n_to : Nat) (n_goal : Nat) (n_reach : Nat) (n_branches : Nat) (n_branch : Nat) (n_tally : Nat) (x_n : Nat → Int32) (f_n_to : Nat → Int32) (p0 : Int32) (ou : Nat) (fo : Nat → Int64) (hx_n : fI lX2 hX2 x_n) (hf_n_to : fI (fun _ => 0) (fun _ => 11) f_n_to) (hp0 : iv 0 19 p0) (hc : p0 < x_n 1) : Met l yL_link wsL_link rm_sL_link_w1 (va_Pc [.ref op, .int p0, .int 1, .ref ou] (fun U => U.heap.size = sz ∧ va_P (dC, dI) vwCl [(op, .inr (10, oX10 ot on dn rd oc d o si w se nb hi p_status oe ih mb p_imageStatus x_p)), (on, .inr (2, oX2 n_kind n_salt n_pace n_manner n_from n_to n_goal n_reach n_branches n_branch n_tally x_n)), (n_to, .inl (kI, 20, .inl f_n_to)), (ou, .inl (kJ, 1, .inr (.inl fo)))] U.heap ∧ kE dC dI kB kI kJ kZ kC kS U ∧ va_D (fun _ => True) [(op, .inr (10, oX10 ot on dn rd oc d o si w se nb hi p_status oe ih mb p_imageStatus x_p)), (on, .inr (2, oX2 n_kind n_salt n_pace n_manner n_from n_to n_goal n_reach n_branches n_branch n_tally x_n)), (n_to, .inl (kI, 20, .inl f_n_to)), (ou, .inl (kJ, 1, .inr (.inl fo)))] ∧ kX U ∧ kT (va_A [(op, .inr (10, oX10 ot on dn rd oc d o si w se nb hi p_status oe ih mb p_imageStatus x_p)), (on, .inr (2, oX2 n_kind n_salt n_pace n_manner n_from n_to n_goal n_reach n_branches n_branch n_tally x_n)), (n_to, .inl (kI, 20, .inl f_n_to)), (ou, .inl (kJ, 1, .inr (.inl fo)))] sz) U)) (va_Qi (fun (r : Int32) (_ : Unit) => r = 0) (fun _ t => ∃ (fo' : Nat → Int64), (fo' 0 = (f_n_to p0.toNatClampNeg).toInt64) ∧ va_P (dC, dI) vwCl [(op, .inr (10, oX10 ot on dn rd oc d o si w se nb hi p_status oe ih mb p_imageStatus x_p)), (on, .inr (2, oX2 n_kind n_salt n_pace n_manner n_from n_to n_goal n_reach n_branches n_branch n_tally x_n)), (n_to, .inl (kI, 20, .inl f_n_to)), (ou, .inl (kJ, 1, .inr (.inl fo')))] t.heap ∧ va_D (va_A [(op, .inr (10, oX10 ot on dn rd oc d o si w se nb hi p_status oe ih mb p_imageStatus x_p)), (on, .inr (2, oX2 n_kind n_salt n_pace n_manner n_from n_to n_goal n_reach n_branches n_branch n_tally x_n)), (n_to, .inl (kI, 20, .inl f_n_to)), (ou, .inl (kJ, 1, .inr (.inl fo)))] sz) [(op, .inr (10, oX10 ot on dn rd oc d o si w se nb hi p_status oe ih mb p_imageStatus x_p)), (on, .inr (2, oX2 n_kind n_salt n_pace n_manner n_from n_to n_goal n_reach n_branches n_branch n_tally x_n)), (n_to, .inl (kI, 20, .inl f_n_to)), (ou, .inl (kJ, 1, .inr (.inl fo')))]) (va_A [(op, .inr (10, oX10 ot on dn rd oc d o si w se nb hi p_status oe ih mb p_imageStatus x_p)), (on, .inr (2, oX2 n_kind n_salt n_pace n_manner n_from n_to n_goal n_reach n_branches n_branch n_tally x_n)), (n_to, .inl (kI, 20, .inl f_n_to)), (ou, .inl (kJ, 1, .inr (.inl fo)))] sz)) 0 0 (va_A [(op, .inr (10, oX10 ot on dn rd oc d o si w se nb hi p_status oe ih mb p_imageStatus x_p)), (on, .inr (2, oX2 n_kind n_salt n_pace n_manner n_from n_to n_goal n_reach n_branches n_branch n_tally x_n)), (n_to, .inl (kI, 20, .inl f_n_to)), (ou, .inl (kJ, 1, .inr (.inl fo)))] sz) := by
  refine va_MetW (cc := cL_link) (maxL := 5) (ret := (some .int)) (by decide) rfl ?_
  intro p e s m args0 below meth c s₁ B hml hv
  obtain ⟨hargs, hsz, hP, hE, hD0, hXs, hT⟩ := hv
  have hx := B.exec
  have hb := B.bytes
  have hr := B.returns
  have hts := atoms_spec (ws := wsL_link) B.pre
  have hown : s.vm.findClass RL = some m.cls := findClass_of_methodNamed B.named
  have hlocks := B.notSynchronized
  have hK := hE.1
  have hin10 : ∀ w ∈ wsX100, w ∈ wsL_link := fun _ h9 => List.mem_cons_of_mem _ (List.mem_append_left _ (List.mem_append_left _ (List.mem_append_right _ h9)))
  have hin2 : ∀ w ∈ wsX20, w ∈ wsL_link := fun _ h9 => List.mem_cons_of_mem _ (List.mem_append_left _ (List.mem_append_right _ h9))
  subst hsz
  have hD := hD0.self (sz := s.heap.size)
  generalize hAe : va_A [(op, .inr (10, oX10 ot on dn rd oc d o si w se nb hi p_status oe ih mb p_imageStatus x_p)), (on, .inr (2, oX2 n_kind n_salt n_pace n_manner n_from n_to n_goal n_reach n_branches n_branch n_tally x_n)), (n_to, .inl (kI, 20, .inl f_n_to)), (ou, .inl (kJ, 1, .inr (.inl fo)))] s.heap.size = A at hD hT ⊢
  have hA : ∀ q : Nat, s.heap.size ≤ q → A q := fun q h => by rw [← hAe]; exact Or.inr h
  have hS : va_S A s.heap s.heap [] := va_S.rf
  have hP : va_P (dC, dI) vwCl [(op, .inr (10, oX10 ot on dn rd oc d o si w se nb hi p_status oe ih mb p_imageStatus x_p)), (on, .inr (2, oX2 n_kind n_salt n_pace n_manner n_from n_to n_goal n_reach n_branches n_branch n_tally x_n)), (n_to, .inl (kI, 20, .inl f_n_to)), (ou, .inl (kJ, 1, .inr (.inl fo)))] s.heap := hP
  have hl := lv_entry ([.ref op, .int p0, .int 1, .ref ou]) (n := 5) (Nat.le_of_ble_eq_true rfl)
  have hla : entryFrame m args0 5 = entryFrame m ([.ref op, .int p0, .int 1, .ref ou] : List Value).toArray 5 := by rw [hargs]
  rw [hla, lg_entry_eq]
  generalize (lg_sl ([.ref op, .int p0, .int 1, .ref ou]) ++ List.replicate (5 - (lg_sl ([.ref op, .int p0, .int 1, .ref ou])).length) Slot.unset).toArray = ls at hl ⊢
  have hl : lv_has ls 5 [(0, .ref op), (1, .int p0), (2, .int 1), (3, .ref ou)] := hl
  refine lv_aload_n hx hb dL_link_0 rfl (lv_at hl 3 rfl) ?_
  refine lv_iconst (v := 0) hx hb dL_link_1 ic_0 ?_
  refine lv_aload_n hx hb dL_link_2 rfl (lv_at hl 0 rfl) ?_
  refine lv_iload_n hx hb dL_link_3 rfl (lv_at hl 1 rfl) ?_
  refine lv_iload_n hx hb dL_link_4 rfl (lv_at hl 2 rfl) ?_
  obtain ⟨hPc, hDc, hFc, hJn⟩ := cl_a (wc := [(op, .inr (10, oX10 ot on dn rd oc d o si w se nb hi p_status oe ih mb p_imageStatus x_p)), (on, .inr (2, oX2 n_kind n_salt n_pace n_manner n_from n_to n_goal n_reach n_branches n_branch n_tally x_n)), (n_to, .inl (kI, 20, .inl f_n_to))]) (wr := [(ou, .inl (kJ, 1, .inr (.inl fo)))]) hP hD hS hA [0, 1, 2] [3] rfl rfl (by decide +kernel)
  refine va_calli (va_runV (As := [.int p0, .int 1]) (rest := [.int 0, .ref ou]) ⟨hx, hb, hml, hown, hts⟩ (s10_link_w1 l dC dI kB kI kJ kZ kC kS s.heap.size op ot on dn rd oc d o si w se nb hi p_status oe ih mb p_imageStatus x_p n_kind n_salt n_pace n_manner n_from n_to n_goal n_reach n_branches n_branch n_tally x_n f_n_to p0 (hx_n) (hf_n_to) (hp0) (hc)) (cwV 2 hts gL_link_X10_link rfl rfl rfl (by decide +kernel) ⟨Nat.le_of_ble_eq_true rfl, Nat.le_of_ble_eq_true rfl⟩) ⟨fun a U g mk q => by obtain ⟨q0, q1, qP, qE, qD⟩ := q; exact ⟨q0, q1, qP, kE_call qE, qD⟩, va_recv hK hP (ci := 10) (q0 := 0) rfl rfl, fun U hU hW => ⟨rfl, by rw [hU], by rw [hU]; exact hPc, kE_warm hW hE, hDc.weaken (fun _ _ _ _ => trivial)⟩⟩ rfl rfl hl.1 rfl (lv_room (Nat.le_of_ble_eq_true rfl)) dL_link_5 ⟨Nat.le_of_ble_eq_true rfl, Nat.le_of_ble_eq_true rfl⟩) hS (fun q _ h => hFc q h) hFc (fun r1 u t H locs ht hvm w2 hB hz1 hk1 hS => ?_)
  obtain ⟨hP1, hD1⟩ := hB
  try dsimp only at w2
  obtain ⟨hPa, hDa⟩ := hJn (w1 := [(op, .inr (10, oX10 ot on dn rd oc d o si w se nb hi p_status oe ih mb p_imageStatus x_p)), (on, .inr (2, oX2 n_kind n_salt n_pace n_manner n_from n_to n_goal n_reach n_branches n_branch n_tally x_n)), (n_to, .inl (kI, 20, .inl f_n_to))]) hk1 ht hP1 hD1
  clear hP hD hPc hDc hFc hJn hP1 hD1 hk1
  have hP : va_P (dC, dI) vwCl [(ou, .inl (kJ, 1, .inr (.inl fo))), (op, .inr (10, oX10 ot on dn rd oc d o si w se nb hi p_status oe ih mb p_imageStatus x_p)), (on, .inr (2, oX2 n_kind n_salt n_pace n_manner n_from n_to n_goal n_reach n_branches n_branch n_tally x_n)), (n_to, .inl (kI, 20, .inl f_n_to))] H := hPa
  have hD : va_D A [(ou, .inl (kJ, 1, .inr (.inl fo))), (op, .inr (10, oX10 ot on dn rd oc d o si w se nb hi p_status oe ih mb p_imageStatus x_p)), (on, .inr (2, oX2 n_kind n_salt n_pace n_manner n_from n_to n_goal n_reach n_branches n_branch n_tally x_n)), (n_to, .inl (kI, 20, .inl f_n_to))] := hDa
  clear hPa hDa
  refine W.widen (k := 0) (n := 0) (Nat.le_of_ble_eq_true rfl) (Nat.le_of_ble_eq_true rfl) ?_
  subst w2
  refine lv_i2l (v := (f_n_to p0.toNatClampNeg).toInt64) hx hb dL_link_8 rfl ?_
  refine va_last hx hb hK hP hD hS 0 2 rfl rfl (vp_in_nI (n := 0) (by decide) (by decide)) dL_link_9 (fun H locs hPa hDa hS => ?_)
  clear hP hD
  have hP : va_P (dC, dI) vwCl [(ou, .inl (kJ, 1, .inr (.inl (vp_updL fo 0 ((f_n_to p0.toNatClampNeg).toInt64))))), (op, .inr (10, oX10 ot on dn rd oc d o si w se nb hi p_status oe ih mb p_imageStatus x_p)), (on, .inr (2, oX2 n_kind n_salt n_pace n_manner n_from n_to n_goal n_reach n_branches n_branch n_tally x_n)), (n_to, .inl (kI, 20, .inl f_n_to))] H := hPa
  have hD : va_D A [(ou, .inl (kJ, 1, .inr (.inl (vp_updL fo 0 ((f_n_to p0.toNatClampNeg).toInt64))))), (op, .inr (10, oX10 ot on dn rd oc d o si w se nb hi p_status oe ih mb p_imageStatus x_p)), (on, .inr (2, oX2 n_kind n_salt n_pace n_manner n_from n_to n_goal n_reach n_branches n_branch n_tally x_n)), (n_to, .inl (kI, 20, .inl f_n_to))] := hDa
  clear hPa hDa
  refine lv_goto (tgt := 17) hx hb dL_link_10 rfl ?_
  refine lv_iconst (v := 0) hx hb dL_link_17 ic_0 ?_
  have hPD9 := cl_s (wc := [(op, .inr (10, oX10 ot on dn rd oc d o si w se nb hi p_status oe ih mb p_imageStatus x_p)), (on, .inr (2, oX2 n_kind n_salt n_pace n_manner n_from n_to n_goal n_reach n_branches n_branch n_tally x_n)), (n_to, .inl (kI, 20, .inl f_n_to)), (ou, .inl (kJ, 1, .inr (.inl (vp_updL fo 0 ((f_n_to p0.toNatClampNeg).toInt64)))))]) hP hD [1, 2, 3, 0] rfl (by decide +kernel)
  have hP9 := hPD9.1
  have hD9 := hPD9.2
  exact W.iret (v := 0) hx hb hr (fun t ht hW => ⟨⟨0, (), rfl, rfl, vp_updL fo 0 ((f_n_to p0.toNatClampNeg).toInt64), (show (vp_updL fo 0 ((f_n_to p0.toNatClampNeg).toInt64)) 0 = (f_n_to p0.toNatClampNeg).toInt64 from rfl), by rw [ht]; exact hP9, hD9⟩, hS.F ht⟩) hS.2.2 dL_link_18
